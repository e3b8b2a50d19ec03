set_option maxRecDepth 100000 in
set_option maxHeartbeats 4000000 in
theorem c_X11_eventT (E : En) (S : Sg) (G : Gh) (this : Int) (paper : Int) (n : Int) (ex : Int) (record : Int) (last : Int) (known : Int) (hS : S this = 128) (ev : Int) (ev_e : ev = G 128 this 8) (ev_s : S ev = 156) (evn : Int) (evn_e : evn = G 156 ev 2) (rdr : Int) (rdr_e : rdr = G 128 this 16) (rdr_s : S rdr = 131) (len : Int) (len_e : len = G 131 rdr 0) (f0 : Int) (f0_e : f0 = G 131 rdr 1) (p0 : Int) (p0_e : p0 = G 131 rdr 2) (tpa : Int) (tpa_e : tpa = G 131 rdr 3) (tpa_s : S tpa = 105) (na : Int) (na_e : na = G 131 rdr 15) (na_s : S na = 107) (nb : Int) (nb_e : nb = G 131 rdr 16) (nb_s : S nb = 107) (la : Int) (la_e : la = G 128 this 1) (paper_a : (-2147483648) ≤ paper) (paper_b : paper ≤ 2147483647) (n_a : (-2147483648) ≤ n) (n_b : n ≤ 2147483647) (ex_a : (-2147483648) ≤ ex) (ex_b : ex ≤ 2147483647) (record_a : (-2147483648) ≤ record) (record_b : record ≤ 2147483647) (last_a : (-2147483648) ≤ last) (last_b : last ≤ 2147483647) (known_a : (-2147483648) ≤ known) (known_b : known ≤ 2147483647) (ci : CI E S G) (TT : Tp) (tp : ∀ i : Int, G 105 tpa i = TT i) (ne1 : na ≠ nb) (ne2 : 0 ≤ G 131 rdr 9 → G 136 (G 131 rdr 9) 9 ≠ G 136 (G 131 rdr 9) 10) : Calls E mX11_event [(2, this), (0, paper), (0, n), (0, ex), (0, record), (0, last), (0, known)] S G 15 16 406 (fun r S' G' => Gr [119, 120, 121, 122, 123, 124, 125, 126, 127, 136, 137, 149, 150, 160, 161, 162, 163, 164, 165, 166, 167, 168, 169, 170, 171, 172, 173, 174, 175, 176, 177, 178, 179, 180, 181, 182, 183, 184, 185] [(106, -1), (107, -1), (119, -1), (120, -1), (121, -1), (122, -1), (123, -1), (124, -1), (128, 0), (128, 1), (129, 1), (131, 0), (131, 1), (131, 2), (131, 4), (131, 5), (131, 6), (131, 7), (131, 8), (131, 9), (131, 10), (131, 11), (131, 13), (131, 14), (136, 0), (136, 1), (136, 2), (149, 2), (149, 3), (149, 4), (149, 5), (149, 6), (149, 7), (149, 8), (149, 9), (149, 10), (149, 11), (149, 12), (149, 13), (149, 14), (149, 15), (150, 0), (150, 1), (150, 2), (150, 3), (150, 4), (150, 5), (150, 6), (156, 0), (156, 1), (156, 2), (170, -1), (171, -1), (172, -1)] S G S' G' ∧ ∃ z : Int, r = some (0, z) ∧ ∃ s2 : Int, s2 = G' 156 ev 2 ∧ ∃ l2 : Int, l2 = G' 128 this 1 ∧ ∃ n2 : Int, n2 = G' 131 rdr 0 ∧ ∃ f2 : Int, f2 = G' 131 rdr 1 ∧ ∃ p2 : Int, p2 = G' 131 rdr 2 ∧ (-2147483648) ≤ z ∧ z ≤ 2147483647 ∧ ((0 ≤ paper ∧ paper ≤ 19 ∧ 0 ≤ n ∧ n ≤ len ∧ 0 ≤ ex ∧ ex ≤ 40000 ∧ 0 ≤ record ∧ record ≤ 40000 ∧ 0 ≤ last ∧ last ≤ 40000 ∧ record - ex ≤ 10 ∧ ex - record ≤ 10 ∧ record ≤ last ∧ 0 ≤ known ∧ known ≤ 40000 ∧ evn < 16 ∧ la ≤ known ∧ n2 = 0 ∧ f2 = (pIt TT n 401 (ud pS0 0 0)) 1 ∧ p2 = (pIt TT n 401 (ud pS0 0 0)) 2 ∧ (((pIt TT n 401 (ud pS0 0 0)) 1 ≠ 0 ∧ z = -1 ∧ s2 = evn ∧ l2 = la) ∨ ((pIt TT n 401 (ud pS0 0 0)) 1 = 0 ∧ z = evn ∧ s2 = evn + 1 ∧ l2 = known))) ∨ (z = -1 ∧ s2 = evn ∧ l2 = la ∧ n2 = len ∧ f2 = f0 ∧ p2 = p0 ∧ ¬ (0 ≤ paper ∧ paper ≤ 19 ∧ 0 ≤ n ∧ n ≤ len ∧ 0 ≤ ex ∧ ex ≤ 40000 ∧ 0 ≤ record ∧ record ≤ 40000 ∧ 0 ≤ last ∧ last ≤ 40000 ∧ record - ex ≤ 10 ∧ ex - record ≤ 10 ∧ record ≤ last ∧ 0 ≤ known ∧ known ≤ 40000 ∧ evn < 16 ∧ la ≤ known))) ∧ CI E S' G' ∧ (∀ i : Int, 0 ≤ i → i < evn → elm S' G' 156 ev i = elm S G 156 ev i) ∧ (z = -1 ∨ (S (elm S' G' 156 ev evn) = 0 ∧ S' (elm S' G' 156 ev evn) = 137 ∧ G' 137 (elm S' G' 156 ev evn) 1 = -1 ∧ S' (G' 137 (elm S' G' 156 ev evn) 3) = 136 ∧ 0 ≤ G' 137 (elm S' G' 156 ev evn) 3 ∧ G' 136 (G' 137 (elm S' G' 156 ev evn) 3) 1 = (pIt TT n 401 (ud pS0 0 0)) 4 ∧ G' 136 (G' 137 (elm S' G' 156 ev evn) 3) 2 = (pIt TT n 401 (ud pS0 0 0)) 5 ∧ G' 137 (elm S' G' 156 ev evn) 3 ≠ G' 131 rdr 9)) ∧ (∀ u : Int, 0 ≤ u → S u = 136 → u ≠ G 131 rdr 9 → u ≠ G' 131 rdr 9 ∧ G' 136 u 1 = G 136 u 1 ∧ G' 136 u 2 = G 136 u 2) ∧ (0 ≤ G' 131 rdr 9 → S' (G' 131 rdr 9) = 136 ∧ G' 136 (G' 131 rdr 9) 9 ≠ G' 136 (G' 131 rdr 9) 10)) := by
  refine calls_by [(0, (2, this)), (1, (0, paper)), (2, (0, n)), (3, (0, ex)), (4, (0, record)), (5, (0, last)), (6, (0, known))] rfl rfl (Nat.le_of_ble_eq_true rfl) (fun X hX => ?_)
  have hP := hPX11_event
  refine r_peekI hX (tl_156 2 rfl (by decide)) ev_s (fun evn_o evn_oe evn_oa evn_ob => ?_)
  obtain rfl : evn = evn_o := evn_e.trans evn_oe.symm
  refine r_peekI hX (tl_131 0 rfl (by decide)) rdr_s (fun len_o len_oe len_oa len_ob => ?_)
  obtain rfl : len = len_o := len_e.trans len_oe.symm
  refine r_peekI hX (tl_131 1 rfl (by decide)) rdr_s (fun f0_o f0_oe f0_oa f0_ob => ?_)
  obtain rfl : f0 = f0_o := f0_e.trans f0_oe.symm
  refine r_peekI hX (tl_131 2 rfl (by decide)) rdr_s (fun p0_o p0_oe p0_oa p0_ob => ?_)
  obtain rfl : p0 = p0_o := p0_e.trans p0_oe.symm
  refine r_peekI hX (tl_128 1 rfl (by decide)) hS (fun la_o la_oe la_oa la_ob => ?_)
  obtain rfl : la = la_o := la_e.trans la_oe.symm
  have j72 : ∀ (l7_j72 : Int), 0 ≤ l7_j72 → l7_j72 ≤ 1 → ((l7_j72 = 1 ∧ ¬ (0 ≤ n ∧ n ≤ len ∧ 0 ≤ ex ∧ ex ≤ 40000 ∧ 0 ≤ record ∧ record ≤ 40000 ∧ 0 ≤ last ∧ last ≤ 40000 ∧ record - ex ≤ 10 ∧ ex - record ≤ 10 ∧ record ≤ last ∧ 0 ≤ known ∧ known ≤ 40000)) ∨ (l7_j72 = 0 ∧ 0 ≤ n ∧ n ≤ len ∧ 0 ≤ ex ∧ ex ≤ 40000 ∧ 0 ≤ record ∧ record ≤ 40000 ∧ 0 ≤ last ∧ last ≤ 40000 ∧ record - ex ≤ 10 ∧ ex - record ≤ 10 ∧ record ≤ last ∧ 0 ≤ known ∧ known ≤ 40000)) → X 0 0 72 [] [(0, (2, this)), (1, (0, paper)), (2, (0, n)), (3, (0, ex)), (4, (0, record)), (5, (0, last)), (6, (0, known)), (7, (0, l7_j72))] S G := by
    intro l7_j72 yj72_0 yj72_1 yj72_2
    refine r_ex hX hP 2 (pc' := 74) (st' := [(0, paper), (2, this)]) (lo' := [(0, (2, this)), (1, (0, paper)), (2, (0, n)), (3, (0, ex)), (4, (0, record)), (5, (0, last)), (6, (0, known)), (7, (0, l7_j72))]) rfl ?_
    refine r_callS gd hX hP rfl cs_X11_120 (d' := 1) (mc' := 0) (ms' := 0) (as' := [(0, paper)]) (st := [(2, this)]) (by first | decide | omega) (by first | decide | omega) (by first | decide | omega) rfl rfl (Nat.le_of_ble_eq_true rfl) (c_isPaperX E S G paper (by first | decide | omega) (by first | decide | omega)) ?_
    rintro _ _ _ ⟨rfl, rfl, z1, rfl, (⟨rfl, f2, f3⟩ | ⟨rfl, f4⟩)⟩
    · skip
      refine r_if_ne hX hP rfl (tgt := 84) rfl (by first | decide | omega) (by first | decide | omega) (fun c5 => ?_) (fun c5 => ?_)
      · skip
        refine r_ex hX hP 3 (pc' := 88) (st' := [(2, this), (0, l7_j72), (0, 0), (2, this)]) (lo' := [(0, (2, this)), (1, (0, paper)), (2, (0, n)), (3, (0, ex)), (4, (0, record)), (5, (0, last)), (6, (0, known)), (7, (0, l7_j72))]) rfl ?_
        refine r_getKR hX hP rfl fl_X11_37_128 hS (x := ev) ev_e ?_
        refine r_callV gd hX hP rfl cv_X11_125_156 ev_s (d' := 0) (mc' := 0) (ms' := 0) (as' := []) (st := [(0, l7_j72), (0, 0), (2, this)]) (by first | decide | omega) (by first | decide | omega) (by first | decide | omega) rfl rfl (Nat.le_of_ble_eq_true rfl) (c_size_Lev E S G ev  ev_s evn evn_e) ?_
        rintro _ _ _ ⟨rfl, rfl, z6, rfl, z6a, z6b, f7⟩
        refine r_ex hX hP 1 (pc' := 96) (st' := [(0, 16), (0, z6), (0, l7_j72), (0, 0), (2, this)]) (lo' := [(0, (2, this)), (1, (0, paper)), (2, (0, n)), (3, (0, ex)), (4, (0, record)), (5, (0, last)), (6, (0, known)), (7, (0, l7_j72))]) rfl ?_
        refine r_ic_lt hX hP rfl (tgt := 103) rfl (by first | decide | omega) (by first | decide | omega) (by first | decide | omega) (by first | decide | omega) (fun c8 => ?_) (fun c8 => ?_)
        · skip
          refine r_ex hX hP 3 (pc' := 107) (st' := [(2, this), (0, known), (0, 0), (0, l7_j72), (0, 0), (2, this)]) (lo' := [(0, (2, this)), (1, (0, paper)), (2, (0, n)), (3, (0, ex)), (4, (0, record)), (5, (0, last)), (6, (0, known)), (7, (0, l7_j72))]) rfl ?_
          refine r_getKI hX hP rfl fl_X11_129_128 hS (x := la) la_e ?_
          refine r_ic_ge hX hP rfl (tgt := 117) rfl (by first | decide | omega) (by first | decide | omega) (by first | decide | omega) (by first | decide | omega) (fun c9 => ?_) (fun c9 => ?_)
          · skip
            refine r_ex hX hP 1 (pc' := 118) (st' := [(0, 0), (0, 0), (0, l7_j72), (0, 0), (2, this)]) (lo' := [(0, (2, this)), (1, (0, paper)), (2, (0, n)), (3, (0, ex)), (4, (0, record)), (5, (0, last)), (6, (0, known)), (7, (0, l7_j72))]) rfl ?_
            refine r_callS gd hX hP rfl cs_X11_112 (d' := 0) (mc' := 0) (ms' := 0) (as' := [(0, 0), (0, l7_j72), (0, 0), (0, 0)]) (st := [(2, this)]) (by first | decide | omega) (by first | decide | omega) (by first | decide | omega) rfl rfl (Nat.le_of_ble_eq_true rfl) (c_X11_first E S G 0 l7_j72 0 0 (by first | decide | omega) (by first | decide | omega) (by first | decide | omega) (by first | decide | omega) (by first | decide | omega) (by first | decide | omega) (by first | decide | omega) (by first | decide | omega)) ?_
            rintro _ _ _ ⟨rfl, rfl, z10, rfl, (⟨rfl, f11⟩ | ⟨rfl, f12, f13⟩ | ⟨rfl, f14, f15, f16⟩ | ⟨rfl, f17, f18, f19, f20⟩ | ⟨rfl, f21, f22, f23, f24⟩)⟩
            · skip
              exfalso; omega
            · skip
              refine r_callV gd hX hP rfl cv_X11_90_128 hS (d' := 0) (mc' := 0) (ms' := 0) (as' := [(0, 2)]) (st := []) (by first | decide | omega) (by first | decide | omega) (by first | decide | omega) rfl rfl (Nat.le_of_ble_eq_true rfl) (c_X11_refused E S G this 2 hS (by first | decide | omega) (by first | decide | omega)) ?_
              rintro _ _ _ ⟨rfl, ⟨G25, rfl⟩, z26, rfl, (⟨rfl, f27⟩ | ⟨rfl, f28⟩)⟩
              · skip
                refine r_if_eq hX hP rfl (tgt := 129) rfl (by first | decide | omega) (by first | decide | omega) (fun c29 => ?_) (fun c29 => ?_)
                · skip
                  exfalso; omega
                · skip
                  refine r_ex hX hP 1 (pc' := 128) (st' := [(0, (-1))]) (lo' := [(0, (2, this)), (1, (0, paper)), (2, (0, n)), (3, (0, ex)), (4, (0, record)), (5, (0, last)), (6, (0, known)), (7, (0, l7_j72))]) rfl ?_
                  have g30 : Gr [119, 120, 121, 122, 123, 124, 125, 126, 127, 136, 137, 149, 150, 160, 161, 162, 163, 164, 165, 166, 167, 168, 169, 170, 171, 172, 173, 174, 175, 176, 177, 178, 179, 180, 181, 182, 183, 184, 185] [(106, -1), (107, -1), (119, -1), (120, -1), (121, -1), (122, -1), (123, -1), (124, -1), (128, 0), (128, 1), (129, 1), (131, 0), (131, 1), (131, 2), (131, 4), (131, 5), (131, 6), (131, 7), (131, 8), (131, 9), (131, 10), (131, 11), (131, 13), (131, 14), (136, 0), (136, 1), (136, 2), (149, 2), (149, 3), (149, 4), (149, 5), (149, 6), (149, 7), (149, 8), (149, 9), (149, 10), (149, 11), (149, 12), (149, 13), (149, 14), (149, 15), (150, 0), (150, 1), (150, 2), (150, 3), (150, 4), (150, 5), (150, 6), (156, 0), (156, 1), (156, 2), (170, -1), (171, -1), (172, -1)] S G S (hw [(128, 0)] G G25) := (gr_hw (gr_refl [119, 120, 121, 122, 123, 124, 125, 126, 127, 136, 137, 149, 150, 160, 161, 162, 163, 164, 165, 166, 167, 168, 169, 170, 171, 172, 173, 174, 175, 176, 177, 178, 179, 180, 181, 182, 183, 184, 185] [(106, -1), (107, -1), (119, -1), (120, -1), (121, -1), (122, -1), (123, -1), (124, -1), (128, 0), (128, 1), (129, 1), (131, 0), (131, 1), (131, 2), (131, 4), (131, 5), (131, 6), (131, 7), (131, 8), (131, 9), (131, 10), (131, 11), (131, 13), (131, 14), (136, 0), (136, 1), (136, 2), (149, 2), (149, 3), (149, 4), (149, 5), (149, 6), (149, 7), (149, 8), (149, 9), (149, 10), (149, 11), (149, 12), (149, 13), (149, 14), (149, 15), (150, 0), (150, 1), (150, 2), (150, 3), (150, 4), (150, 5), (150, 6), (156, 0), (156, 1), (156, 2), (170, -1), (171, -1), (172, -1)] S G) rfl)
                  have ci31 : CI E S (hw [(128, 0)] G G25) := (ci_hw ci rfl)
                  refine r_peekN hX (tl_131 9 rfl (by decide)) rdr_s (fun tep32 tep32e tep32s => ?_)
                  have pqe : tep32 = (hw [(128, 0)] G G25) 131 rdr 9 := tep32e
                  exact r_retI hX hP rfl rfl (by first | decide | omega) (by first | decide | omega) ⟨g30, (-1), rfl, evn, evn_e, la, la_e, len, len_e, f0, f0_e, p0, p0_e, (by first | decide | omega), (by first | decide | omega), (Or.inr ⟨(by first | decide | omega), (by first | decide | omega), (by first | decide | omega), (by first | decide | omega), (by first | decide | omega), (by first | decide | omega), (by first | decide | omega)⟩), ci31, (fun i h0 h1 => elk_156 ci ev_s (frm_tr (frm_refl gk156 S G) (frm_hw rfl)) h0 (by rw [← evn_e]; exact h1)), (Or.inl rfl), (fun u u0 hu hn => ⟨hn, rfl, rfl⟩), (fun p => ⟨(tep32s.elim (fun q => absurd (show 0 ≤ tep32 from by rw [pqe]; exact p) (by rw [q]; decide)) (fun q => by rw [← pqe]; exact q)), ne2 p⟩)⟩
              · skip
                exfalso; omega
            · skip
              exfalso; omega
            · skip
              exfalso; omega
            · skip
              refine r_callV gd hX hP rfl cv_X11_90_128 hS (d' := 0) (mc' := 0) (ms' := 0) (as' := [(0, 0)]) (st := []) (by first | decide | omega) (by first | decide | omega) (by first | decide | omega) rfl rfl (Nat.le_of_ble_eq_true rfl) (c_X11_refused E S G this 0 hS (by first | decide | omega) (by first | decide | omega)) ?_
              rintro _ _ _ ⟨rfl, ⟨G33, rfl⟩, z34, rfl, (⟨rfl, f35⟩ | ⟨rfl, f36⟩)⟩
              · skip
                exfalso; omega
              · skip
                refine r_if_eq hX hP rfl (tgt := 129) rfl (by first | decide | omega) (by first | decide | omega) (fun c37 => ?_) (fun c37 => ?_)
                · skip
                  obtain ⟨oe0, oe1, oe2, oe3, oe4, oe5, oe6, oe7, oe8, oe9, oe10, oe11, oe12⟩ : 0 ≤ n ∧ n ≤ len ∧ 0 ≤ ex ∧ ex ≤ 40000 ∧ 0 ≤ record ∧ record ≤ 40000 ∧ 0 ≤ last ∧ last ≤ 40000 ∧ record - ex ≤ 10 ∧ ex - record ≤ 10 ∧ record ≤ last ∧ 0 ≤ known ∧ known ≤ 40000 := by omega
                  clear yj72_2
                  refine r_ex hX hP 1 (pc' := 130) (st' := [(2, this)]) (lo' := [(0, (2, this)), (1, (0, paper)), (2, (0, n)), (3, (0, ex)), (4, (0, record)), (5, (0, last)), (6, (0, known)), (7, (0, l7_j72))]) rfl ?_
                  refine r_getKR hX hP rfl fl_X11_71_128 hS (x := rdr) rdr_e ?_
                  refine r_ex hX hP 1 (pc' := 134) (st' := [(0, n), (2, rdr)]) (lo' := [(0, (2, this)), (1, (0, paper)), (2, (0, n)), (3, (0, ex)), (4, (0, record)), (5, (0, last)), (6, (0, known)), (7, (0, l7_j72))]) rfl ?_
                  have g38 : Gr [119, 120, 121, 122, 123, 124, 125, 126, 127, 136, 137, 149, 150, 160, 161, 162, 163, 164, 165, 166, 167, 168, 169, 170, 171, 172, 173, 174, 175, 176, 177, 178, 179, 180, 181, 182, 183, 184, 185] [(106, -1), (107, -1), (119, -1), (120, -1), (121, -1), (122, -1), (123, -1), (124, -1), (128, 0), (128, 1), (129, 1), (131, 0), (131, 1), (131, 2), (131, 4), (131, 5), (131, 6), (131, 7), (131, 8), (131, 9), (131, 10), (131, 11), (131, 13), (131, 14), (136, 0), (136, 1), (136, 2), (149, 2), (149, 3), (149, 4), (149, 5), (149, 6), (149, 7), (149, 8), (149, 9), (149, 10), (149, 11), (149, 12), (149, 13), (149, 14), (149, 15), (150, 0), (150, 1), (150, 2), (150, 3), (150, 4), (150, 5), (150, 6), (156, 0), (156, 1), (156, 2), (170, -1), (171, -1), (172, -1)] S G S (hw [(128, 0)] G G33) := (gr_hw (gr_refl [119, 120, 121, 122, 123, 124, 125, 126, 127, 136, 137, 149, 150, 160, 161, 162, 163, 164, 165, 166, 167, 168, 169, 170, 171, 172, 173, 174, 175, 176, 177, 178, 179, 180, 181, 182, 183, 184, 185] [(106, -1), (107, -1), (119, -1), (120, -1), (121, -1), (122, -1), (123, -1), (124, -1), (128, 0), (128, 1), (129, 1), (131, 0), (131, 1), (131, 2), (131, 4), (131, 5), (131, 6), (131, 7), (131, 8), (131, 9), (131, 10), (131, 11), (131, 13), (131, 14), (136, 0), (136, 1), (136, 2), (149, 2), (149, 3), (149, 4), (149, 5), (149, 6), (149, 7), (149, 8), (149, 9), (149, 10), (149, 11), (149, 12), (149, 13), (149, 14), (149, 15), (150, 0), (150, 1), (150, 2), (150, 3), (150, 4), (150, 5), (150, 6), (156, 0), (156, 1), (156, 2), (170, -1), (171, -1), (172, -1)] S G) rfl)
                  have ci39 : CI E S (hw [(128, 0)] G G33) := (ci_hw ci rfl)
                  refine r_tk hX (fun tk40 => ?_)
                  refine r_callV gd hX hP rfl cv_X11_169_131 rdr_s (d' := 8) (mc' := 14) (ms' := 326) (as' := [(0, n)]) (st := []) (by first | decide | omega) (by first | decide | omega) (by first | decide | omega) rfl rfl (Nat.le_of_ble_eq_true rfl) (c_readX E S (hw [(128, 0)] G G33) rdr n rdr_s tpa tpa_e tpa_s na na_e na_s nb nb_e nb_s (by first | decide | omega) (by first | decide | omega) ci39 TT (tp : _) ne1 (ne2 : _)) ?_
                  rintro _ S41 G42 ⟨g43, z44, rfl, z44s, ci45, q46⟩
                  have s47 : S41 this = 128 := gr_lab g43 hS (by decide)
                  have s48 : S41 ev = 156 := gr_lab g43 ev_s (by decide)
                  have s49 : S41 rdr = 131 := gr_lab g43 rdr_s (by decide)
                  have s50 : S41 tpa = 105 := gr_lab g43 tpa_s (by decide)
                  have s51 : S41 na = 107 := gr_lab g43 na_s (by decide)
                  have s52 : S41 nb = 107 := gr_lab g43 nb_s (by decide)
                  have e53 : ev = G42 128 this 8 := gr_val g43 ev_e hS (by decide) rfl
                  have e54 : evn = G42 156 ev 2 := gr_val g43 evn_e ev_s (by decide) rfl
                  have e55 : rdr = G42 128 this 16 := gr_val g43 rdr_e hS (by decide) rfl
                  have e56 : len = G42 131 rdr 0 := gr_val g43 len_e rdr_s (by decide) rfl
                  have e57 : tpa = G42 131 rdr 3 := gr_val g43 tpa_e rdr_s (by decide) rfl
                  have e58 : na = G42 131 rdr 15 := gr_val g43 na_e rdr_s (by decide) rfl
                  have e59 : nb = G42 131 rdr 16 := gr_val g43 nb_e rdr_s (by decide) rfl
                  have e60 : la = G42 128 this 1 := gr_val g43 la_e hS (by decide) rfl
                  have g61 : Gr [119, 120, 121, 122, 123, 124, 125, 126, 127, 136, 137, 149, 150, 160, 161, 162, 163, 164, 165, 166, 167, 168, 169, 170, 171, 172, 173, 174, 175, 176, 177, 178, 179, 180, 181, 182, 183, 184, 185] [(106, -1), (107, -1), (119, -1), (120, -1), (121, -1), (122, -1), (123, -1), (124, -1), (128, 0), (128, 1), (129, 1), (131, 0), (131, 1), (131, 2), (131, 4), (131, 5), (131, 6), (131, 7), (131, 8), (131, 9), (131, 10), (131, 11), (131, 13), (131, 14), (136, 0), (136, 1), (136, 2), (149, 2), (149, 3), (149, 4), (149, 5), (149, 6), (149, 7), (149, 8), (149, 9), (149, 10), (149, 11), (149, 12), (149, 13), (149, 14), (149, 15), (150, 0), (150, 1), (150, 2), (150, 3), (150, 4), (150, 5), (150, 6), (156, 0), (156, 1), (156, 2), (170, -1), (171, -1), (172, -1)] S G S41 G42 := gr_call g38 g43 rfl rfl
                  obtain ⟨r1, r2, r3, r4, r5⟩ := q46
                  refine r_peekI hX (tl_131 1 rfl (by decide)) s49 (fun flp62 flp62e flp62a flp62b => ?_)
                  have k63 := flp62e.trans r1
                  refine r_peekI hX (tl_131 2 rfl (by decide)) s49 (fun plp64 plp64e plp64a plp64b => ?_)
                  have k65 := plp64e.trans r2
                  refine r_ex hX hP 2 (pc' := 140) (st' := [(2, this)]) (lo' := [(0, (2, this)), (1, (0, paper)), (2, (0, n)), (3, (0, ex)), (4, (0, record)), (5, (0, last)), (6, (0, known)), (7, (0, l7_j72)), (8, (2, z44))]) rfl ?_
                  refine r_getKR hX hP rfl fl_X11_71_128 s47 (x := rdr) e55 ?_
                  refine r_ex hX hP 1 (pc' := 144) (st' := [(0, 0), (2, rdr)]) (lo' := [(0, (2, this)), (1, (0, paper)), (2, (0, n)), (3, (0, ex)), (4, (0, record)), (5, (0, last)), (6, (0, known)), (7, (0, l7_j72)), (8, (2, z44))]) rfl ?_
                  refine r_putIK hX hP rfl fp_X11_157_131 s49 (by first | decide | omega) (by first | decide | omega) (fun h66 => ?_)
                  refine r_ex hX hP 2 (pc' := 150) (st' := [(2, z44), (2, this)]) (lo' := [(0, (2, this)), (1, (0, paper)), (2, (0, n)), (3, (0, ex)), (4, (0, record)), (5, (0, last)), (6, (0, known)), (7, (0, l7_j72)), (8, (2, z44))]) rfl ?_
                  refine r_ifnn hX hP rfl (tgt := 158) rfl (fun c67 => ?_) (fun c67 => ?_)
                  · skip
                    have s68 := nul_lab z44s c67
                    refine r_ex hX hP 1 (pc' := 159) (st' := [(0, 0), (2, this)]) (lo' := [(0, (2, this)), (1, (0, paper)), (2, (0, n)), (3, (0, ex)), (4, (0, record)), (5, (0, last)), (6, (0, known)), (7, (0, l7_j72)), (8, (2, z44))]) rfl ?_
                    refine r_callV gd hX hP rfl cv_X11_90_128 s47 (d' := 0) (mc' := 0) (ms' := 0) (as' := [(0, 0)]) (st := []) (by first | decide | omega) (by first | decide | omega) (by first | decide | omega) rfl rfl (Nat.le_of_ble_eq_true rfl) (c_X11_refused E S41 (up G42 131 rdr 0 0) this 0 s47 (by first | decide | omega) (by first | decide | omega)) ?_
                    rintro _ _ _ ⟨rfl, ⟨G69, rfl⟩, z70, rfl, (⟨rfl, f71⟩ | ⟨rfl, f72⟩)⟩
                    · skip
                      exfalso; omega
                    · skip
                      refine r_if_eq hX hP rfl (tgt := 167) rfl (by first | decide | omega) (by first | decide | omega) (fun c73 => ?_) (fun c73 => ?_)
                      · skip
                        obtain ⟨rt1, rt2, rt3, rt4, rt5, rt6⟩ := r3.resolve_left (fun q => by omega)
                        refine r_peekI hX (tl_136 1 rfl (by decide)) s68 (fun chp74 chp74e chp74a chp74b => ?_)
                        have k75 := chp74e.trans (show (hw [(128, 0)] (up G42 131 rdr 0 0) G69) 136 z44 1 = (pIt TT n 401 (ud pS0 0 0)) 4 from rt4)
                        refine r_peekI hX (tl_136 2 rfl (by decide)) s68 (fun fap76 fap76e fap76a fap76b => ?_)
                        have k77 := fap76e.trans (show (hw [(128, 0)] (up G42 131 rdr 0 0) G69) 136 z44 2 = (pIt TT n 401 (ud pS0 0 0)) 5 from rt5)
                        have g78 : Gr [119, 120, 121, 122, 123, 124, 125, 126, 127, 136, 137, 149, 150, 160, 161, 162, 163, 164, 165, 166, 167, 168, 169, 170, 171, 172, 173, 174, 175, 176, 177, 178, 179, 180, 181, 182, 183, 184, 185] [(106, -1), (107, -1), (119, -1), (120, -1), (121, -1), (122, -1), (123, -1), (124, -1), (128, 0), (128, 1), (129, 1), (131, 0), (131, 1), (131, 2), (131, 4), (131, 5), (131, 6), (131, 7), (131, 8), (131, 9), (131, 10), (131, 11), (131, 13), (131, 14), (136, 0), (136, 1), (136, 2), (149, 2), (149, 3), (149, 4), (149, 5), (149, 6), (149, 7), (149, 8), (149, 9), (149, 10), (149, 11), (149, 12), (149, 13), (149, 14), (149, 15), (150, 0), (150, 1), (150, 2), (150, 3), (150, 4), (150, 5), (150, 6), (156, 0), (156, 1), (156, 2), (170, -1), (171, -1), (172, -1)] S G S41 (hw [(128, 0)] (up G42 131 rdr 0 0) G69) := (gr_hw (gr_up g61 rfl) rfl)
                        have ci79 : CI E S41 (hw [(128, 0)] (up G42 131 rdr 0 0) G69) := (ci_hw (ci_up ci45 rfl) rfl)
                        refine r_tk hX (fun tk80 => ?_)
                        refine r_newA hX hP rfl (L := 150) (N := 7) nw_X11_173_150 (by first | decide | omega) (by first | decide | omega) (fun n81 S82 G83 n81z n81n n81l g84 n81v => ?_)
                        have z85 : S n81 = 0 := gr_zero g78 n81z
                        have s86 : S82 this = 128 := gr_lab g84 s47 (by decide)
                        have s87 : S82 ev = 156 := gr_lab g84 s48 (by decide)
                        have s88 : S82 rdr = 131 := gr_lab g84 s49 (by decide)
                        have s89 : S82 tpa = 105 := gr_lab g84 s50 (by decide)
                        have s90 : S82 na = 107 := gr_lab g84 s51 (by decide)
                        have s91 : S82 nb = 107 := gr_lab g84 s52 (by decide)
                        have s92 : S82 z44 = 136 := gr_lab g84 s68 (by decide)
                        have e93 : ev = G83 128 this 8 := gr_val g84 e53 s47 (by decide) rfl
                        have e94 : evn = G83 156 ev 2 := gr_val g84 e54 s48 (by decide) rfl
                        have e95 : rdr = G83 128 this 16 := gr_val g84 e55 s47 (by decide) rfl
                        have e96 : tpa = G83 131 rdr 3 := gr_val g84 e57 s49 (by decide) rfl
                        have e97 : na = G83 131 rdr 15 := gr_val g84 e58 s49 (by decide) rfl
                        have e98 : nb = G83 131 rdr 16 := gr_val g84 e59 s49 (by decide) rfl
                        have e99 : la = G83 128 this 1 := gr_val g84 e60 s47 (by decide) rfl
                        have e100 : flp62 = G83 131 rdr 1 := gr_val g84 flp62e s49 (by decide) rfl
                        have e101 : plp64 = G83 131 rdr 2 := gr_val g84 plp64e s49 (by decide) rfl
                        have e102 : 0 = G83 131 rdr 0 := gr_val g84 h66 s49 (by decide) rfl
                        have e103 : chp74 = G83 136 z44 1 := gr_val g84 chp74e s68 (by decide) rfl
                        have e104 : fap76 = G83 136 z44 2 := gr_val g84 fap76e s68 (by decide) rfl
                        have g105 : Gr [119, 120, 121, 122, 123, 124, 125, 126, 127, 136, 137, 149, 150, 160, 161, 162, 163, 164, 165, 166, 167, 168, 169, 170, 171, 172, 173, 174, 175, 176, 177, 178, 179, 180, 181, 182, 183, 184, 185] [(106, -1), (107, -1), (119, -1), (120, -1), (121, -1), (122, -1), (123, -1), (124, -1), (128, 0), (128, 1), (129, 1), (131, 0), (131, 1), (131, 2), (131, 4), (131, 5), (131, 6), (131, 7), (131, 8), (131, 9), (131, 10), (131, 11), (131, 13), (131, 14), (136, 0), (136, 1), (136, 2), (149, 2), (149, 3), (149, 4), (149, 5), (149, 6), (149, 7), (149, 8), (149, 9), (149, 10), (149, 11), (149, 12), (149, 13), (149, 14), (149, 15), (150, 0), (150, 1), (150, 2), (150, 3), (150, 4), (150, 5), (150, 6), (156, 0), (156, 1), (156, 2), (170, -1), (171, -1), (172, -1)] S G S82 G83 := gr_call g78 g84 rfl rfl
                        have ci106 : CI E S82 G83 := ci_gr ci79 tk80 g84 rfl rfl
                        refine r_ex hX hP 4 (pc' := 176) (st' := [(0, known), (2, z44), (0, paper), (2, n81), (2, n81)]) (lo' := [(0, (2, this)), (1, (0, paper)), (2, (0, n)), (3, (0, ex)), (4, (0, record)), (5, (0, last)), (6, (0, known)), (7, (0, l7_j72)), (8, (2, z44))]) rfl ?_
                        refine r_callI gd hX hP rfl ci_X11_175 n81n (d' := 4) (mc' := 0) (ms' := 0) (as' := [(0, paper), (2, z44), (0, known)]) (st := [(2, n81)]) (by first | decide | omega) (by first | decide | omega) (by first | decide | omega) rfl rfl (Nat.le_of_ble_eq_true rfl) (c_X2_initT E S82 G83 n81 paper z44 known n81l s92 (by first | decide | omega) (by first | decide | omega) (by first | decide | omega) (by first | decide | omega)) ?_
                        rintro _ _ _ ⟨rfl, ⟨G107, rfl⟩, rfl, knh108, knh108e, sth109, sth109e, pah110, pah110e, teh111, teh111e, f112, f113, f114, f115⟩
                        refine r_peekI hX (tl_150 0 rfl (by decide)) n81l (fun o116 o116e o116a o116b => ?_)
                        obtain rfl : knh108 = o116 := knh108e.trans o116e.symm
                        refine r_peekI hX (tl_150 1 rfl (by decide)) n81l (fun o117 o117e o117a o117b => ?_)
                        obtain rfl : sth109 = o117 := sth109e.trans o117e.symm
                        refine r_peekI hX (tl_150 2 rfl (by decide)) n81l (fun o118 o118e o118a o118b => ?_)
                        obtain rfl : pah110 = o118 := pah110e.trans o118e.symm
                        have e120 : known = (hw [(150, 0), (150, 1), (150, 2), (150, 3)] G83 G107) 150 n81 0 := by rw [← f112]; exact knh108e
                        have e121 : ((-1) : Int) = (hw [(150, 0), (150, 1), (150, 2), (150, 3)] G83 G107) 150 n81 1 := by rw [← f113]; exact sth109e
                        have e122 : paper = (hw [(150, 0), (150, 1), (150, 2), (150, 3)] G83 G107) 150 n81 2 := by rw [← f114]; exact pah110e
                        have e123 : z44 = (hw [(150, 0), (150, 1), (150, 2), (150, 3)] G83 G107) 150 n81 3 := by rw [← f115]; exact teh111e
                        refine r_ex hX hP 3 (pc' := 184) (st' := [(0, ex), (2, n81)]) (lo' := [(0, (2, this)), (1, (0, paper)), (2, (0, n)), (3, (0, ex)), (4, (0, record)), (5, (0, last)), (6, (0, known)), (7, (0, l7_j72)), (8, (2, z44)), (9, (2, n81))]) rfl ?_
                        refine r_putIK hX hP rfl fp_X11_178_150 n81l (by first | decide | omega) (by first | decide | omega) (fun h124 => ?_)
                        refine r_ex hX hP 2 (pc' := 191) (st' := [(0, record), (2, n81)]) (lo' := [(0, (2, this)), (1, (0, paper)), (2, (0, n)), (3, (0, ex)), (4, (0, record)), (5, (0, last)), (6, (0, known)), (7, (0, l7_j72)), (8, (2, z44)), (9, (2, n81))]) rfl ?_
                        refine r_putIK hX hP rfl fp_X11_181_150 n81l (by first | decide | omega) (by first | decide | omega) (fun h125 => ?_)
                        refine r_ex hX hP 2 (pc' := 198) (st' := [(0, last), (2, n81)]) (lo' := [(0, (2, this)), (1, (0, paper)), (2, (0, n)), (3, (0, ex)), (4, (0, record)), (5, (0, last)), (6, (0, known)), (7, (0, l7_j72)), (8, (2, z44)), (9, (2, n81))]) rfl ?_
                        refine r_putIK hX hP rfl fp_X11_184_150 n81l (by first | decide | omega) (by first | decide | omega) (fun h126 => ?_)
                        have g127 : Gr [119, 120, 121, 122, 123, 124, 125, 126, 127, 136, 137, 149, 150, 160, 161, 162, 163, 164, 165, 166, 167, 168, 169, 170, 171, 172, 173, 174, 175, 176, 177, 178, 179, 180, 181, 182, 183, 184, 185] [(106, -1), (107, -1), (119, -1), (120, -1), (121, -1), (122, -1), (123, -1), (124, -1), (128, 0), (128, 1), (129, 1), (131, 0), (131, 1), (131, 2), (131, 4), (131, 5), (131, 6), (131, 7), (131, 8), (131, 9), (131, 10), (131, 11), (131, 13), (131, 14), (136, 0), (136, 1), (136, 2), (149, 2), (149, 3), (149, 4), (149, 5), (149, 6), (149, 7), (149, 8), (149, 9), (149, 10), (149, 11), (149, 12), (149, 13), (149, 14), (149, 15), (150, 0), (150, 1), (150, 2), (150, 3), (150, 4), (150, 5), (150, 6), (156, 0), (156, 1), (156, 2), (170, -1), (171, -1), (172, -1)] S G S82 (up (up (up (hw [(150, 0), (150, 1), (150, 2), (150, 3)] G83 G107) 150 n81 4 ex) 150 n81 5 record) 150 n81 6 last) := (gr_up (gr_up (gr_up (gr_hw g105 rfl) rfl) rfl) rfl)
                        refine r_finA hX (L := 150) (ci := 3) (fs := fs_150) rfl n81l (by decide) (fun hr128 => ?_)
                        have hf129 : Fnl E fs_137 150 S82 (up (up (up (hw [(150, 0), (150, 1), (150, 2), (150, 3)] G83 G107) 150 n81 4 ex) 150 n81 5 record) 150 n81 6 last) n81 := by
                          intro j hj
                          rcases (by have : j < 7 := hj; omega : j = 0 ∨ j = 1 ∨ j = 2 ∨ j = 3 ∨ j = 4 ∨ j = 5 ∨ j = 6) with rfl | rfl | rfl | rfl | rfl | rfl | rfl
                          · exact hr128 0 (by decide)
                          · exact hr128 1 (by decide)
                          · exact hr128 2 (by decide)
                          · exact ⟨lab_of e123 s92, by decide⟩
                          · exact hr128 4 (by decide)
                          · exact hr128 5 (by decide)
                          · exact hr128 6 (by decide)
                        have ci130 : CI E S82 (up (up (up (hw [(150, 0), (150, 1), (150, 2), (150, 3)] G83 G107) 150 n81 4 ex) 150 n81 5 record) 150 n81 6 last) := (ci_up (ci_up (ci_up (ci_hw ci106 rfl) rfl) rfl) rfl)
                        refine r_tk hX (fun tk131 => ?_)
                        refine r_relabF hX (L := 150) (L' := 137) (ci := 3) (fs := fs_150) (fs' := fs_137) rfl rfl rfl (by decide) (by decide) nf_150 (by decide) n81l hf129 (fun S133 G134 r132 => ?_)
                        have s136 : S133 this = 128 := r132.lab n81l s86 (by decide)
                        have s137 : S133 ev = 156 := r132.lab n81l s87 (by decide)
                        have s138 : S133 rdr = 131 := r132.lab n81l s88 (by decide)
                        have s139 : S133 tpa = 105 := r132.lab n81l s89 (by decide)
                        have s140 : S133 na = 107 := r132.lab n81l s90 (by decide)
                        have s141 : S133 nb = 107 := r132.lab n81l s91 (by decide)
                        have s142 : S133 z44 = 136 := r132.lab n81l s92 (by decide)
                        have e143 : ev = G134 128 this 8 := rs_val r132 n81l e93 s86 (by decide)
                        have e144 : evn = G134 156 ev 2 := rs_val r132 n81l e94 s87 (by decide)
                        have e145 : rdr = G134 128 this 16 := rs_val r132 n81l e95 s86 (by decide)
                        have e146 : tpa = G134 131 rdr 3 := rs_val r132 n81l e96 s88 (by decide)
                        have e147 : na = G134 131 rdr 15 := rs_val r132 n81l e97 s88 (by decide)
                        have e148 : nb = G134 131 rdr 16 := rs_val r132 n81l e98 s88 (by decide)
                        have e149 : la = G134 128 this 1 := rs_val r132 n81l e99 s86 (by decide)
                        have e150 : flp62 = G134 131 rdr 1 := rs_val r132 n81l e100 s88 (by decide)
                        have e151 : plp64 = G134 131 rdr 2 := rs_val r132 n81l e101 s88 (by decide)
                        have e152 : 0 = G134 131 rdr 0 := rs_val r132 n81l e102 s88 (by decide)
                        have e153 : chp74 = G134 136 z44 1 := rs_val r132 n81l e103 s92 (by decide)
                        have e154 : fap76 = G134 136 z44 2 := rs_val r132 n81l e104 s92 (by decide)
                        have e155 : known = G134 137 n81 0 := e120.trans (r132.2.2.1 0).symm
                        have e156 : (-1) = G134 137 n81 1 := e121.trans (r132.2.2.1 1).symm
                        have e157 : paper = G134 137 n81 2 := e122.trans (r132.2.2.1 2).symm
                        have e158 : z44 = G134 137 n81 3 := e123.trans (r132.2.2.1 3).symm
                        have e159 : ex = G134 137 n81 4 := h124.trans (r132.2.2.1 4).symm
                        have e160 : record = G134 137 n81 5 := h125.trans (r132.2.2.1 5).symm
                        have e161 : last = G134 137 n81 6 := h126.trans (r132.2.2.1 6).symm
                        have g162 : Gr [119, 120, 121, 122, 123, 124, 125, 126, 127, 136, 137, 149, 150, 160, 161, 162, 163, 164, 165, 166, 167, 168, 169, 170, 171, 172, 173, 174, 175, 176, 177, 178, 179, 180, 181, 182, 183, 184, 185] [(106, -1), (107, -1), (119, -1), (120, -1), (121, -1), (122, -1), (123, -1), (124, -1), (128, 0), (128, 1), (129, 1), (131, 0), (131, 1), (131, 2), (131, 4), (131, 5), (131, 6), (131, 7), (131, 8), (131, 9), (131, 10), (131, 11), (131, 13), (131, 14), (136, 0), (136, 1), (136, 2), (149, 2), (149, 3), (149, 4), (149, 5), (149, 6), (149, 7), (149, 8), (149, 9), (149, 10), (149, 11), (149, 12), (149, 13), (149, 14), (149, 15), (150, 0), (150, 1), (150, 2), (150, 3), (150, 4), (150, 5), (150, 6), (156, 0), (156, 1), (156, 2), (170, -1), (171, -1), (172, -1)] S G S133 G134 := gr_rs g127 r132 z85 rfl
                        have ci163 : CI E S133 G134 := ci_rs ci130 tk131 r132 n81l rfl rfl (fun e => absurd e (by decide)) (fun e => absurd e (by decide))
                        refine r_ex hX hP 1 (pc' := 202) (st' := [(2, this)]) (lo' := [(0, (2, this)), (1, (0, paper)), (2, (0, n)), (3, (0, ex)), (4, (0, record)), (5, (0, last)), (6, (0, known)), (7, (0, l7_j72)), (8, (2, z44)), (9, (2, n81))]) rfl ?_
                        refine r_getKR hX hP rfl fl_X11_37_128 s136 (x := ev) e143 ?_
                        refine r_ex hX hP 1 (pc' := 207) (st' := [(2, n81), (2, ev)]) (lo' := [(0, (2, this)), (1, (0, paper)), (2, (0, n)), (3, (0, ex)), (4, (0, record)), (5, (0, last)), (6, (0, known)), (7, (0, l7_j72)), (8, (2, z44)), (9, (2, n81))]) rfl ?_
                        refine r_tk hX (fun tk164 => ?_)
                        refine r_callV gd hX hP rfl cv_X11_143_156 s137 (d' := 14) (mc' := 1) (ms' := 22) (as' := [(2, n81)]) (st := []) (by first | decide | omega) (by first | decide | omega) (by first | decide | omega) rfl rfl (Nat.le_of_ble_eq_true rfl) (c_add_LevT E S133 G134 ev n81 s137 r132.1 evn e144 (by first | decide | omega) ci163) ?_
                        rintro _ S165 G166 ⟨g167, z168, rfl, z168a, z168b, ci169, q170, q171, q172⟩
                        have s173 : S165 this = 128 := gr_lab g167 s136 (by decide)
                        have s174 : S165 ev = 156 := gr_lab g167 s137 (by decide)
                        have s175 : S165 rdr = 131 := gr_lab g167 s138 (by decide)
                        have s176 : S165 tpa = 105 := gr_lab g167 s139 (by decide)
                        have s177 : S165 na = 107 := gr_lab g167 s140 (by decide)
                        have s178 : S165 nb = 107 := gr_lab g167 s141 (by decide)
                        have s179 : S165 z44 = 136 := gr_lab g167 s142 (by decide)
                        have s180 : S165 n81 = 137 := gr_lab g167 r132.1 (by decide)
                        have e181 : ev = G166 128 this 8 := gr_val g167 e143 s136 (by decide) rfl
                        have e182 : rdr = G166 128 this 16 := gr_val g167 e145 s136 (by decide) rfl
                        have e183 : tpa = G166 131 rdr 3 := gr_val g167 e146 s138 (by decide) rfl
                        have e184 : na = G166 131 rdr 15 := gr_val g167 e147 s138 (by decide) rfl
                        have e185 : nb = G166 131 rdr 16 := gr_val g167 e148 s138 (by decide) rfl
                        have e186 : la = G166 128 this 1 := gr_val g167 e149 s136 (by decide) rfl
                        have e187 : flp62 = G166 131 rdr 1 := gr_val g167 e150 s138 (by decide) rfl
                        have e188 : plp64 = G166 131 rdr 2 := gr_val g167 e151 s138 (by decide) rfl
                        have e189 : 0 = G166 131 rdr 0 := gr_val g167 e152 s138 (by decide) rfl
                        have e190 : chp74 = G166 136 z44 1 := gr_val g167 e153 s142 (by decide) rfl
                        have e191 : fap76 = G166 136 z44 2 := gr_val g167 e154 s142 (by decide) rfl
                        have e192 : known = G166 137 n81 0 := gr_val g167 e155 r132.1 (by decide) rfl
                        have e193 : (-1) = G166 137 n81 1 := gr_val g167 e156 r132.1 (by decide) rfl
                        have e194 : paper = G166 137 n81 2 := gr_val g167 e157 r132.1 (by decide) rfl
                        have e195 : z44 = G166 137 n81 3 := gr_val g167 e158 r132.1 (by decide) rfl
                        have e196 : ex = G166 137 n81 4 := gr_val g167 e159 r132.1 (by decide) rfl
                        have e197 : record = G166 137 n81 5 := gr_val g167 e160 r132.1 (by decide) rfl
                        have e198 : last = G166 137 n81 6 := gr_val g167 e161 r132.1 (by decide) rfl
                        have g199 : Gr [119, 120, 121, 122, 123, 124, 125, 126, 127, 136, 137, 149, 150, 160, 161, 162, 163, 164, 165, 166, 167, 168, 169, 170, 171, 172, 173, 174, 175, 176, 177, 178, 179, 180, 181, 182, 183, 184, 185] [(106, -1), (107, -1), (119, -1), (120, -1), (121, -1), (122, -1), (123, -1), (124, -1), (128, 0), (128, 1), (129, 1), (131, 0), (131, 1), (131, 2), (131, 4), (131, 5), (131, 6), (131, 7), (131, 8), (131, 9), (131, 10), (131, 11), (131, 13), (131, 14), (136, 0), (136, 1), (136, 2), (149, 2), (149, 3), (149, 4), (149, 5), (149, 6), (149, 7), (149, 8), (149, 9), (149, 10), (149, 11), (149, 12), (149, 13), (149, 14), (149, 15), (150, 0), (150, 1), (150, 2), (150, 3), (150, 4), (150, 5), (150, 6), (156, 0), (156, 1), (156, 2), (170, -1), (171, -1), (172, -1)] S G S165 G166 := gr_call g162 g167 rfl rfl
                        refine r_ex hX hP 3 (pc' := 214) (st' := [(0, known), (2, this)]) (lo' := [(0, (2, this)), (1, (0, paper)), (2, (0, n)), (3, (0, ex)), (4, (0, record)), (5, (0, last)), (6, (0, known)), (7, (0, l7_j72)), (8, (2, z44)), (9, (2, n81))]) rfl ?_
                        refine r_callV gd hX hP rfl cv_X11_147_128 s173 (d' := 0) (mc' := 0) (ms' := 0) (as' := [(0, known)]) (st := []) (by first | decide | omega) (by first | decide | omega) (by first | decide | omega) rfl rfl (Nat.le_of_ble_eq_true rfl) (c_X11_tellT E S165 G166 this known s173 (by first | decide | omega) (by first | decide | omega)) ?_
                        rintro _ _ _ ⟨rfl, ⟨G200, rfl⟩, rfl, lah201, lah201e, f202⟩
                        refine r_peekI hX (tl_128 1 rfl (by decide)) s173 (fun o203 o203e o203a o203b => ?_)
                        obtain rfl : lah201 = o203 := lah201e.trans o203e.symm
                        refine r_ex hX hP 1 (pc' := 218) (st' := [(2, this)]) (lo' := [(0, (2, this)), (1, (0, paper)), (2, (0, n)), (3, (0, ex)), (4, (0, record)), (5, (0, last)), (6, (0, known)), (7, (0, l7_j72)), (8, (2, z44)), (9, (2, n81))]) rfl ?_
                        refine r_getKR hX hP rfl fl_X11_37_128 s173 (x := ev) e181 ?_
                        refine r_peekI hX (tl_156 2 rfl (by decide)) s174 (fun sip204 sip204e sip204a sip204b => ?_)
                        refine r_callV gd hX hP rfl cv_X11_125_156 s174 (d' := 0) (mc' := 0) (ms' := 0) (as' := []) (st := []) (by first | decide | omega) (by first | decide | omega) (by first | decide | omega) rfl rfl (Nat.le_of_ble_eq_true rfl) (c_size_Lev E S165 (hw [(128, 1), (129, 1)] G166 G200) ev  s174 sip204 sip204e) ?_
                        rintro _ _ _ ⟨rfl, rfl, z205, rfl, z205a, z205b, f206⟩
                        refine r_ex hX hP 2 (pc' := 226) (st' := [(0, (z205 - 1))]) (lo' := [(0, (2, this)), (1, (0, paper)), (2, (0, n)), (3, (0, ex)), (4, (0, record)), (5, (0, last)), (6, (0, known)), (7, (0, l7_j72)), (8, (2, z44)), (9, (2, n81))]) rfl ?_
                        have g207 : Gr [119, 120, 121, 122, 123, 124, 125, 126, 127, 136, 137, 149, 150, 160, 161, 162, 163, 164, 165, 166, 167, 168, 169, 170, 171, 172, 173, 174, 175, 176, 177, 178, 179, 180, 181, 182, 183, 184, 185] [(106, -1), (107, -1), (119, -1), (120, -1), (121, -1), (122, -1), (123, -1), (124, -1), (128, 0), (128, 1), (129, 1), (131, 0), (131, 1), (131, 2), (131, 4), (131, 5), (131, 6), (131, 7), (131, 8), (131, 9), (131, 10), (131, 11), (131, 13), (131, 14), (136, 0), (136, 1), (136, 2), (149, 2), (149, 3), (149, 4), (149, 5), (149, 6), (149, 7), (149, 8), (149, 9), (149, 10), (149, 11), (149, 12), (149, 13), (149, 14), (149, 15), (150, 0), (150, 1), (150, 2), (150, 3), (150, 4), (150, 5), (150, 6), (156, 0), (156, 1), (156, 2), (170, -1), (171, -1), (172, -1)] S G S165 (hw [(128, 1), (129, 1)] G166 G200) := (gr_hw g199 rfl)
                        have k208 := sip204e.trans (show (hw [(128, 1), (129, 1)] G166 G200) 156 ev 2 = evn + 1 from q170)
                        have ci209 : CI E S165 (hw [(128, 1), (129, 1)] G166 G200) := (ci_hw ci169 rfl)
                        refine r_peekN hX (tl_131 9 rfl (by decide)) s175 (fun tep210 tep210e tep210s => ?_)
                        have pqe : tep210 = (hw [(128, 1), (129, 1)] G166 G200) 131 rdr 9 := tep210e
                        have q211l : S41 rdr = 131 := gr_lab g43 (show S rdr = 131 from rdr_s) (by decide)
                        have q211s : G166 156 ev 2 = evn + 1 := q170
                        have q211f : Frm gk156 S165 G166 S165 (hw [(128, 1), (129, 1)] G166 G200) := (frm_tr (frm_refl gk156 S165 G166) (frm_hw rfl))
                        have q211o : ∀ i : Int, 0 ≤ i → i < evn → elm S165 (hw [(128, 1), (129, 1)] G166 G200) 156 ev i = elm S G 156 ev i := fun i h0 h1 => (elk_156 ci169 s174 q211f h0 (by rw [q211s]; omega)).trans ((q171 i h0 h1).trans (elk_156 ci ev_s (frm_rs (frm_up (frm_up (frm_up (frm_tr (frm_tr (frm_tr (frm_up (frm_tr (frm_tr (frm_refl gk156 S G) (frm_hw rfl)) (frm_gr g43 rfl)) rfl) (frm_hw rfl)) (frm_gr g84 rfl)) (frm_hw rfl)) rfl) rfl) rfl) r132 z85) h0 (by rw [← evn_e]; exact h1)))
                        have q211n : elm S165 (hw [(128, 1), (129, 1)] G166 G200) 156 ev evn = n81 := (elk_156 ci169 s174 q211f (by first | decide | omega) (by rw [q211s]; omega)).trans q172
                        have q211g : Frm gt9 S41 G42 S165 (hw [(128, 1), (129, 1)] G166 G200) := (frm_tr (frm_tr (frm_rs (frm_up (frm_up (frm_up (frm_tr (frm_tr (frm_tr (frm_up (frm_refl gt9 S41 G42) rfl) (frm_hw rfl)) (frm_gr g84 rfl)) (frm_hw rfl)) rfl) rfl) rfl) r132 n81z) (frm_gr g167 rfl)) (frm_hw rfl))
                        have q2119 : (hw [(128, 1), (129, 1)] G166 G200) 131 rdr 9 = -1 := (q211g.2 131 rdr 9 (by decide) q211l (by decide)).trans rt6
                        have q211t : (hw [(128, 1), (129, 1)] G166 G200) 137 n81 3 = z44 := e195.symm.trans (show z44 = z44 from by omega)
                        exact r_retI hX hP rfl rfl (by first | decide | omega) (by first | decide | omega) ⟨g207, (z205 - 1), rfl, sip204, sip204e, lah201, lah201e, 0, e189, flp62, e187, plp64, e188, (by first | decide | omega), (by first | decide | omega), (Or.inl ⟨(by first | decide | omega), (by first | decide | omega), (by first | decide | omega), (by first | decide | omega), (by first | decide | omega), (by first | decide | omega), (by first | decide | omega), (by first | decide | omega), (by first | decide | omega), (by first | decide | omega), (by first | decide | omega), (by first | decide | omega), (by first | decide | omega), (by first | decide | omega), (by first | decide | omega), (by first | decide | omega), (by first | decide | omega), (by first | decide | omega), (by first | decide | omega), (by first | decide | omega), (Or.inr ⟨(by first | decide | omega), (by first | decide | omega), (by first | decide | omega), (by first | decide | omega)⟩)⟩), ci209, q211o, (Or.inr (by rw [q211n]; exact ⟨z85, s180, (e193.symm.trans (show (-1) = -1 from by omega)), (by rw [q211t]; exact s179), (by rw [q211t]; exact rt2), (by rw [q211t]; exact e190.symm.trans (show chp74 = (pIt TT n 401 (ud pS0 0 0)) 4 from by omega)), (by rw [q211t]; exact e191.symm.trans (show fap76 = (pIt TT n 401 (ud pS0 0 0)) 5 from by omega)), (by rw [q211t, q2119]; omega)⟩)), (fun u u0 hu hn => by obtain ⟨a, b, c, d⟩ := r4 u u0 hu hn; have hl : S41 u = 136 := gr_lab g43 hu (by decide); exact ⟨by rw [q2119]; omega, (q211g.2 136 u 1 (by decide) hl (by decide)).trans c, (q211g.2 136 u 2 (by decide) hl (by decide)).trans d⟩), (fun p => absurd (show (0 : Int) ≤ -1 from Int.le_trans p (Int.le_of_eq q2119)) (by decide))⟩
                      · skip
                        exfalso; omega
                  · skip
                    refine r_ex hX hP 2 (pc' := 159) (st' := [(0, 6), (2, this)]) (lo' := [(0, (2, this)), (1, (0, paper)), (2, (0, n)), (3, (0, ex)), (4, (0, record)), (5, (0, last)), (6, (0, known)), (7, (0, l7_j72)), (8, (2, z44))]) rfl ?_
                    refine r_callV gd hX hP rfl cv_X11_90_128 s47 (d' := 0) (mc' := 0) (ms' := 0) (as' := [(0, 6)]) (st := []) (by first | decide | omega) (by first | decide | omega) (by first | decide | omega) rfl rfl (Nat.le_of_ble_eq_true rfl) (c_X11_refused E S41 (up G42 131 rdr 0 0) this 6 s47 (by first | decide | omega) (by first | decide | omega)) ?_
                    rintro _ _ _ ⟨rfl, ⟨G212, rfl⟩, z213, rfl, (⟨rfl, f214⟩ | ⟨rfl, f215⟩)⟩
                    · skip
                      refine r_if_eq hX hP rfl (tgt := 167) rfl (by first | decide | omega) (by first | decide | omega) (fun c216 => ?_) (fun c216 => ?_)
                      · skip
                        exfalso; omega
                      · skip
                        refine r_ex hX hP 1 (pc' := 166) (st' := [(0, (-1))]) (lo' := [(0, (2, this)), (1, (0, paper)), (2, (0, n)), (3, (0, ex)), (4, (0, record)), (5, (0, last)), (6, (0, known)), (7, (0, l7_j72)), (8, (2, z44))]) rfl ?_
                        have g217 : Gr [119, 120, 121, 122, 123, 124, 125, 126, 127, 136, 137, 149, 150, 160, 161, 162, 163, 164, 165, 166, 167, 168, 169, 170, 171, 172, 173, 174, 175, 176, 177, 178, 179, 180, 181, 182, 183, 184, 185] [(106, -1), (107, -1), (119, -1), (120, -1), (121, -1), (122, -1), (123, -1), (124, -1), (128, 0), (128, 1), (129, 1), (131, 0), (131, 1), (131, 2), (131, 4), (131, 5), (131, 6), (131, 7), (131, 8), (131, 9), (131, 10), (131, 11), (131, 13), (131, 14), (136, 0), (136, 1), (136, 2), (149, 2), (149, 3), (149, 4), (149, 5), (149, 6), (149, 7), (149, 8), (149, 9), (149, 10), (149, 11), (149, 12), (149, 13), (149, 14), (149, 15), (150, 0), (150, 1), (150, 2), (150, 3), (150, 4), (150, 5), (150, 6), (156, 0), (156, 1), (156, 2), (170, -1), (171, -1), (172, -1)] S G S41 (hw [(128, 0)] (up G42 131 rdr 0 0) G212) := (gr_hw (gr_up g61 rfl) rfl)
                        have ci218 : CI E S41 (hw [(128, 0)] (up G42 131 rdr 0 0) G212) := (ci_hw (ci_up ci45 rfl) rfl)
                        refine r_peekN hX (tl_131 9 rfl (by decide)) s49 (fun tep219 tep219e tep219s => ?_)
                        have pqe : tep219 = (hw [(128, 0)] (up G42 131 rdr 0 0) G212) 131 rdr 9 := tep219e
                        have q220l : S41 rdr = 131 := gr_lab g43 (show S rdr = 131 from rdr_s) (by decide)
                        exact r_retI hX hP rfl rfl (by first | decide | omega) (by first | decide | omega) ⟨g217, (-1), rfl, evn, e54, la, e60, 0, h66, flp62, flp62e, plp64, plp64e, (by first | decide | omega), (by first | decide | omega), (Or.inl ⟨(by first | decide | omega), (by first | decide | omega), (by first | decide | omega), (by first | decide | omega), (by first | decide | omega), (by first | decide | omega), (by first | decide | omega), (by first | decide | omega), (by first | decide | omega), (by first | decide | omega), (by first | decide | omega), (by first | decide | omega), (by first | decide | omega), (by first | decide | omega), (by first | decide | omega), (by first | decide | omega), (by first | decide | omega), (by first | decide | omega), (by first | decide | omega), (by first | decide | omega), (Or.inl ⟨(by first | decide | omega), (by first | decide | omega), (by first | decide | omega), (by first | decide | omega)⟩)⟩), ci218, (fun i h0 h1 => elk_156 ci ev_s (frm_tr (frm_up (frm_tr (frm_tr (frm_refl gk156 S G) (frm_hw rfl)) (frm_gr g43 rfl)) rfl) (frm_hw rfl)) h0 (by rw [← evn_e]; exact h1)), (Or.inl rfl), (fun u u0 hu hn => by obtain ⟨a, b, c, d⟩ := r4 u u0 hu hn; exact ⟨b, c, d⟩), (fun p => ⟨(tep219s.elim (fun q => absurd (show 0 ≤ tep219 from by rw [pqe]; exact p) (by rw [q]; decide)) (fun q => by rw [← pqe]; exact q)), r5 p⟩)⟩
                    · skip
                      exfalso; omega
                · skip
                  exfalso; omega
          · skip
            refine r_ex hX hP 2 (pc' := 118) (st' := [(0, 1), (0, 0), (0, l7_j72), (0, 0), (2, this)]) (lo' := [(0, (2, this)), (1, (0, paper)), (2, (0, n)), (3, (0, ex)), (4, (0, record)), (5, (0, last)), (6, (0, known)), (7, (0, l7_j72))]) rfl ?_
            refine r_callS gd hX hP rfl cs_X11_112 (d' := 0) (mc' := 0) (ms' := 0) (as' := [(0, 0), (0, l7_j72), (0, 0), (0, 1)]) (st := [(2, this)]) (by first | decide | omega) (by first | decide | omega) (by first | decide | omega) rfl rfl (Nat.le_of_ble_eq_true rfl) (c_X11_first E S G 0 l7_j72 0 1 (by first | decide | omega) (by first | decide | omega) (by first | decide | omega) (by first | decide | omega) (by first | decide | omega) (by first | decide | omega) (by first | decide | omega) (by first | decide | omega)) ?_
            rintro _ _ _ ⟨rfl, rfl, z221, rfl, (⟨rfl, f222⟩ | ⟨rfl, f223, f224⟩ | ⟨rfl, f225, f226, f227⟩ | ⟨rfl, f228, f229, f230, f231⟩ | ⟨rfl, f232, f233, f234, f235⟩)⟩
            · skip
              exfalso; omega
            · skip
              refine r_callV gd hX hP rfl cv_X11_90_128 hS (d' := 0) (mc' := 0) (ms' := 0) (as' := [(0, 2)]) (st := []) (by first | decide | omega) (by first | decide | omega) (by first | decide | omega) rfl rfl (Nat.le_of_ble_eq_true rfl) (c_X11_refused E S G this 2 hS (by first | decide | omega) (by first | decide | omega)) ?_
              rintro _ _ _ ⟨rfl, ⟨G236, rfl⟩, z237, rfl, (⟨rfl, f238⟩ | ⟨rfl, f239⟩)⟩
              · skip
                refine r_if_eq hX hP rfl (tgt := 129) rfl (by first | decide | omega) (by first | decide | omega) (fun c240 => ?_) (fun c240 => ?_)
                · skip
                  exfalso; omega
                · skip
                  refine r_ex hX hP 1 (pc' := 128) (st' := [(0, (-1))]) (lo' := [(0, (2, this)), (1, (0, paper)), (2, (0, n)), (3, (0, ex)), (4, (0, record)), (5, (0, last)), (6, (0, known)), (7, (0, l7_j72))]) rfl ?_
                  have g241 : Gr [119, 120, 121, 122, 123, 124, 125, 126, 127, 136, 137, 149, 150, 160, 161, 162, 163, 164, 165, 166, 167, 168, 169, 170, 171, 172, 173, 174, 175, 176, 177, 178, 179, 180, 181, 182, 183, 184, 185] [(106, -1), (107, -1), (119, -1), (120, -1), (121, -1), (122, -1), (123, -1), (124, -1), (128, 0), (128, 1), (129, 1), (131, 0), (131, 1), (131, 2), (131, 4), (131, 5), (131, 6), (131, 7), (131, 8), (131, 9), (131, 10), (131, 11), (131, 13), (131, 14), (136, 0), (136, 1), (136, 2), (149, 2), (149, 3), (149, 4), (149, 5), (149, 6), (149, 7), (149, 8), (149, 9), (149, 10), (149, 11), (149, 12), (149, 13), (149, 14), (149, 15), (150, 0), (150, 1), (150, 2), (150, 3), (150, 4), (150, 5), (150, 6), (156, 0), (156, 1), (156, 2), (170, -1), (171, -1), (172, -1)] S G S (hw [(128, 0)] G G236) := (gr_hw (gr_refl [119, 120, 121, 122, 123, 124, 125, 126, 127, 136, 137, 149, 150, 160, 161, 162, 163, 164, 165, 166, 167, 168, 169, 170, 171, 172, 173, 174, 175, 176, 177, 178, 179, 180, 181, 182, 183, 184, 185] [(106, -1), (107, -1), (119, -1), (120, -1), (121, -1), (122, -1), (123, -1), (124, -1), (128, 0), (128, 1), (129, 1), (131, 0), (131, 1), (131, 2), (131, 4), (131, 5), (131, 6), (131, 7), (131, 8), (131, 9), (131, 10), (131, 11), (131, 13), (131, 14), (136, 0), (136, 1), (136, 2), (149, 2), (149, 3), (149, 4), (149, 5), (149, 6), (149, 7), (149, 8), (149, 9), (149, 10), (149, 11), (149, 12), (149, 13), (149, 14), (149, 15), (150, 0), (150, 1), (150, 2), (150, 3), (150, 4), (150, 5), (150, 6), (156, 0), (156, 1), (156, 2), (170, -1), (171, -1), (172, -1)] S G) rfl)
                  have ci242 : CI E S (hw [(128, 0)] G G236) := (ci_hw ci rfl)
                  refine r_peekN hX (tl_131 9 rfl (by decide)) rdr_s (fun tep243 tep243e tep243s => ?_)
                  have pqe : tep243 = (hw [(128, 0)] G G236) 131 rdr 9 := tep243e
                  exact r_retI hX hP rfl rfl (by first | decide | omega) (by first | decide | omega) ⟨g241, (-1), rfl, evn, evn_e, la, la_e, len, len_e, f0, f0_e, p0, p0_e, (by first | decide | omega), (by first | decide | omega), (Or.inr ⟨(by first | decide | omega), (by first | decide | omega), (by first | decide | omega), (by first | decide | omega), (by first | decide | omega), (by first | decide | omega), (by first | decide | omega)⟩), ci242, (fun i h0 h1 => elk_156 ci ev_s (frm_tr (frm_refl gk156 S G) (frm_hw rfl)) h0 (by rw [← evn_e]; exact h1)), (Or.inl rfl), (fun u u0 hu hn => ⟨hn, rfl, rfl⟩), (fun p => ⟨(tep243s.elim (fun q => absurd (show 0 ≤ tep243 from by rw [pqe]; exact p) (by rw [q]; decide)) (fun q => by rw [← pqe]; exact q)), ne2 p⟩)⟩
              · skip
                exfalso; omega
            · skip
              exfalso; omega
            · skip
              refine r_callV gd hX hP rfl cv_X11_90_128 hS (d' := 0) (mc' := 0) (ms' := 0) (as' := [(0, 4)]) (st := []) (by first | decide | omega) (by first | decide | omega) (by first | decide | omega) rfl rfl (Nat.le_of_ble_eq_true rfl) (c_X11_refused E S G this 4 hS (by first | decide | omega) (by first | decide | omega)) ?_
              rintro _ _ _ ⟨rfl, ⟨G244, rfl⟩, z245, rfl, (⟨rfl, f246⟩ | ⟨rfl, f247⟩)⟩
              · skip
                refine r_if_eq hX hP rfl (tgt := 129) rfl (by first | decide | omega) (by first | decide | omega) (fun c248 => ?_) (fun c248 => ?_)
                · skip
                  exfalso; omega
                · skip
                  refine r_ex hX hP 1 (pc' := 128) (st' := [(0, (-1))]) (lo' := [(0, (2, this)), (1, (0, paper)), (2, (0, n)), (3, (0, ex)), (4, (0, record)), (5, (0, last)), (6, (0, known)), (7, (0, l7_j72))]) rfl ?_
                  have g249 : Gr [119, 120, 121, 122, 123, 124, 125, 126, 127, 136, 137, 149, 150, 160, 161, 162, 163, 164, 165, 166, 167, 168, 169, 170, 171, 172, 173, 174, 175, 176, 177, 178, 179, 180, 181, 182, 183, 184, 185] [(106, -1), (107, -1), (119, -1), (120, -1), (121, -1), (122, -1), (123, -1), (124, -1), (128, 0), (128, 1), (129, 1), (131, 0), (131, 1), (131, 2), (131, 4), (131, 5), (131, 6), (131, 7), (131, 8), (131, 9), (131, 10), (131, 11), (131, 13), (131, 14), (136, 0), (136, 1), (136, 2), (149, 2), (149, 3), (149, 4), (149, 5), (149, 6), (149, 7), (149, 8), (149, 9), (149, 10), (149, 11), (149, 12), (149, 13), (149, 14), (149, 15), (150, 0), (150, 1), (150, 2), (150, 3), (150, 4), (150, 5), (150, 6), (156, 0), (156, 1), (156, 2), (170, -1), (171, -1), (172, -1)] S G S (hw [(128, 0)] G G244) := (gr_hw (gr_refl [119, 120, 121, 122, 123, 124, 125, 126, 127, 136, 137, 149, 150, 160, 161, 162, 163, 164, 165, 166, 167, 168, 169, 170, 171, 172, 173, 174, 175, 176, 177, 178, 179, 180, 181, 182, 183, 184, 185] [(106, -1), (107, -1), (119, -1), (120, -1), (121, -1), (122, -1), (123, -1), (124, -1), (128, 0), (128, 1), (129, 1), (131, 0), (131, 1), (131, 2), (131, 4), (131, 5), (131, 6), (131, 7), (131, 8), (131, 9), (131, 10), (131, 11), (131, 13), (131, 14), (136, 0), (136, 1), (136, 2), (149, 2), (149, 3), (149, 4), (149, 5), (149, 6), (149, 7), (149, 8), (149, 9), (149, 10), (149, 11), (149, 12), (149, 13), (149, 14), (149, 15), (150, 0), (150, 1), (150, 2), (150, 3), (150, 4), (150, 5), (150, 6), (156, 0), (156, 1), (156, 2), (170, -1), (171, -1), (172, -1)] S G) rfl)
                  have ci250 : CI E S (hw [(128, 0)] G G244) := (ci_hw ci rfl)
                  refine r_peekN hX (tl_131 9 rfl (by decide)) rdr_s (fun tep251 tep251e tep251s => ?_)
                  have pqe : tep251 = (hw [(128, 0)] G G244) 131 rdr 9 := tep251e
                  exact r_retI hX hP rfl rfl (by first | decide | omega) (by first | decide | omega) ⟨g249, (-1), rfl, evn, evn_e, la, la_e, len, len_e, f0, f0_e, p0, p0_e, (by first | decide | omega), (by first | decide | omega), (Or.inr ⟨(by first | decide | omega), (by first | decide | omega), (by first | decide | omega), (by first | decide | omega), (by first | decide | omega), (by first | decide | omega), (by first | decide | omega)⟩), ci250, (fun i h0 h1 => elk_156 ci ev_s (frm_tr (frm_refl gk156 S G) (frm_hw rfl)) h0 (by rw [← evn_e]; exact h1)), (Or.inl rfl), (fun u u0 hu hn => ⟨hn, rfl, rfl⟩), (fun p => ⟨(tep251s.elim (fun q => absurd (show 0 ≤ tep251 from by rw [pqe]; exact p) (by rw [q]; decide)) (fun q => by rw [← pqe]; exact q)), ne2 p⟩)⟩
              · skip
                exfalso; omega
            · skip
              exfalso; omega
        · skip
          refine r_ex hX hP 4 (pc' := 107) (st' := [(2, this), (0, known), (0, 1), (0, l7_j72), (0, 0), (2, this)]) (lo' := [(0, (2, this)), (1, (0, paper)), (2, (0, n)), (3, (0, ex)), (4, (0, record)), (5, (0, last)), (6, (0, known)), (7, (0, l7_j72))]) rfl ?_
          refine r_getKI hX hP rfl fl_X11_129_128 hS (x := la) la_e ?_
          refine r_ic_ge hX hP rfl (tgt := 117) rfl (by first | decide | omega) (by first | decide | omega) (by first | decide | omega) (by first | decide | omega) (fun c252 => ?_) (fun c252 => ?_)
          · skip
            refine r_ex hX hP 1 (pc' := 118) (st' := [(0, 0), (0, 1), (0, l7_j72), (0, 0), (2, this)]) (lo' := [(0, (2, this)), (1, (0, paper)), (2, (0, n)), (3, (0, ex)), (4, (0, record)), (5, (0, last)), (6, (0, known)), (7, (0, l7_j72))]) rfl ?_
            refine r_callS gd hX hP rfl cs_X11_112 (d' := 0) (mc' := 0) (ms' := 0) (as' := [(0, 0), (0, l7_j72), (0, 1), (0, 0)]) (st := [(2, this)]) (by first | decide | omega) (by first | decide | omega) (by first | decide | omega) rfl rfl (Nat.le_of_ble_eq_true rfl) (c_X11_first E S G 0 l7_j72 1 0 (by first | decide | omega) (by first | decide | omega) (by first | decide | omega) (by first | decide | omega) (by first | decide | omega) (by first | decide | omega) (by first | decide | omega) (by first | decide | omega)) ?_
            rintro _ _ _ ⟨rfl, rfl, z253, rfl, (⟨rfl, f254⟩ | ⟨rfl, f255, f256⟩ | ⟨rfl, f257, f258, f259⟩ | ⟨rfl, f260, f261, f262, f263⟩ | ⟨rfl, f264, f265, f266, f267⟩)⟩
            · skip
              exfalso; omega
            · skip
              refine r_callV gd hX hP rfl cv_X11_90_128 hS (d' := 0) (mc' := 0) (ms' := 0) (as' := [(0, 2)]) (st := []) (by first | decide | omega) (by first | decide | omega) (by first | decide | omega) rfl rfl (Nat.le_of_ble_eq_true rfl) (c_X11_refused E S G this 2 hS (by first | decide | omega) (by first | decide | omega)) ?_
              rintro _ _ _ ⟨rfl, ⟨G268, rfl⟩, z269, rfl, (⟨rfl, f270⟩ | ⟨rfl, f271⟩)⟩
              · skip
                refine r_if_eq hX hP rfl (tgt := 129) rfl (by first | decide | omega) (by first | decide | omega) (fun c272 => ?_) (fun c272 => ?_)
                · skip
                  exfalso; omega
                · skip
                  refine r_ex hX hP 1 (pc' := 128) (st' := [(0, (-1))]) (lo' := [(0, (2, this)), (1, (0, paper)), (2, (0, n)), (3, (0, ex)), (4, (0, record)), (5, (0, last)), (6, (0, known)), (7, (0, l7_j72))]) rfl ?_
                  have g273 : Gr [119, 120, 121, 122, 123, 124, 125, 126, 127, 136, 137, 149, 150, 160, 161, 162, 163, 164, 165, 166, 167, 168, 169, 170, 171, 172, 173, 174, 175, 176, 177, 178, 179, 180, 181, 182, 183, 184, 185] [(106, -1), (107, -1), (119, -1), (120, -1), (121, -1), (122, -1), (123, -1), (124, -1), (128, 0), (128, 1), (129, 1), (131, 0), (131, 1), (131, 2), (131, 4), (131, 5), (131, 6), (131, 7), (131, 8), (131, 9), (131, 10), (131, 11), (131, 13), (131, 14), (136, 0), (136, 1), (136, 2), (149, 2), (149, 3), (149, 4), (149, 5), (149, 6), (149, 7), (149, 8), (149, 9), (149, 10), (149, 11), (149, 12), (149, 13), (149, 14), (149, 15), (150, 0), (150, 1), (150, 2), (150, 3), (150, 4), (150, 5), (150, 6), (156, 0), (156, 1), (156, 2), (170, -1), (171, -1), (172, -1)] S G S (hw [(128, 0)] G G268) := (gr_hw (gr_refl [119, 120, 121, 122, 123, 124, 125, 126, 127, 136, 137, 149, 150, 160, 161, 162, 163, 164, 165, 166, 167, 168, 169, 170, 171, 172, 173, 174, 175, 176, 177, 178, 179, 180, 181, 182, 183, 184, 185] [(106, -1), (107, -1), (119, -1), (120, -1), (121, -1), (122, -1), (123, -1), (124, -1), (128, 0), (128, 1), (129, 1), (131, 0), (131, 1), (131, 2), (131, 4), (131, 5), (131, 6), (131, 7), (131, 8), (131, 9), (131, 10), (131, 11), (131, 13), (131, 14), (136, 0), (136, 1), (136, 2), (149, 2), (149, 3), (149, 4), (149, 5), (149, 6), (149, 7), (149, 8), (149, 9), (149, 10), (149, 11), (149, 12), (149, 13), (149, 14), (149, 15), (150, 0), (150, 1), (150, 2), (150, 3), (150, 4), (150, 5), (150, 6), (156, 0), (156, 1), (156, 2), (170, -1), (171, -1), (172, -1)] S G) rfl)
                  have ci274 : CI E S (hw [(128, 0)] G G268) := (ci_hw ci rfl)
                  refine r_peekN hX (tl_131 9 rfl (by decide)) rdr_s (fun tep275 tep275e tep275s => ?_)
                  have pqe : tep275 = (hw [(128, 0)] G G268) 131 rdr 9 := tep275e
                  exact r_retI hX hP rfl rfl (by first | decide | omega) (by first | decide | omega) ⟨g273, (-1), rfl, evn, evn_e, la, la_e, len, len_e, f0, f0_e, p0, p0_e, (by first | decide | omega), (by first | decide | omega), (Or.inr ⟨(by first | decide | omega), (by first | decide | omega), (by first | decide | omega), (by first | decide | omega), (by first | decide | omega), (by first | decide | omega), (by first | decide | omega)⟩), ci274, (fun i h0 h1 => elk_156 ci ev_s (frm_tr (frm_refl gk156 S G) (frm_hw rfl)) h0 (by rw [← evn_e]; exact h1)), (Or.inl rfl), (fun u u0 hu hn => ⟨hn, rfl, rfl⟩), (fun p => ⟨(tep275s.elim (fun q => absurd (show 0 ≤ tep275 from by rw [pqe]; exact p) (by rw [q]; decide)) (fun q => by rw [← pqe]; exact q)), ne2 p⟩)⟩
              · skip
                exfalso; omega
            · skip
              refine r_callV gd hX hP rfl cv_X11_90_128 hS (d' := 0) (mc' := 0) (ms' := 0) (as' := [(0, 3)]) (st := []) (by first | decide | omega) (by first | decide | omega) (by first | decide | omega) rfl rfl (Nat.le_of_ble_eq_true rfl) (c_X11_refused E S G this 3 hS (by first | decide | omega) (by first | decide | omega)) ?_
              rintro _ _ _ ⟨rfl, ⟨G276, rfl⟩, z277, rfl, (⟨rfl, f278⟩ | ⟨rfl, f279⟩)⟩
              · skip
                refine r_if_eq hX hP rfl (tgt := 129) rfl (by first | decide | omega) (by first | decide | omega) (fun c280 => ?_) (fun c280 => ?_)
                · skip
                  exfalso; omega
                · skip
                  refine r_ex hX hP 1 (pc' := 128) (st' := [(0, (-1))]) (lo' := [(0, (2, this)), (1, (0, paper)), (2, (0, n)), (3, (0, ex)), (4, (0, record)), (5, (0, last)), (6, (0, known)), (7, (0, l7_j72))]) rfl ?_
                  have g281 : Gr [119, 120, 121, 122, 123, 124, 125, 126, 127, 136, 137, 149, 150, 160, 161, 162, 163, 164, 165, 166, 167, 168, 169, 170, 171, 172, 173, 174, 175, 176, 177, 178, 179, 180, 181, 182, 183, 184, 185] [(106, -1), (107, -1), (119, -1), (120, -1), (121, -1), (122, -1), (123, -1), (124, -1), (128, 0), (128, 1), (129, 1), (131, 0), (131, 1), (131, 2), (131, 4), (131, 5), (131, 6), (131, 7), (131, 8), (131, 9), (131, 10), (131, 11), (131, 13), (131, 14), (136, 0), (136, 1), (136, 2), (149, 2), (149, 3), (149, 4), (149, 5), (149, 6), (149, 7), (149, 8), (149, 9), (149, 10), (149, 11), (149, 12), (149, 13), (149, 14), (149, 15), (150, 0), (150, 1), (150, 2), (150, 3), (150, 4), (150, 5), (150, 6), (156, 0), (156, 1), (156, 2), (170, -1), (171, -1), (172, -1)] S G S (hw [(128, 0)] G G276) := (gr_hw (gr_refl [119, 120, 121, 122, 123, 124, 125, 126, 127, 136, 137, 149, 150, 160, 161, 162, 163, 164, 165, 166, 167, 168, 169, 170, 171, 172, 173, 174, 175, 176, 177, 178, 179, 180, 181, 182, 183, 184, 185] [(106, -1), (107, -1), (119, -1), (120, -1), (121, -1), (122, -1), (123, -1), (124, -1), (128, 0), (128, 1), (129, 1), (131, 0), (131, 1), (131, 2), (131, 4), (131, 5), (131, 6), (131, 7), (131, 8), (131, 9), (131, 10), (131, 11), (131, 13), (131, 14), (136, 0), (136, 1), (136, 2), (149, 2), (149, 3), (149, 4), (149, 5), (149, 6), (149, 7), (149, 8), (149, 9), (149, 10), (149, 11), (149, 12), (149, 13), (149, 14), (149, 15), (150, 0), (150, 1), (150, 2), (150, 3), (150, 4), (150, 5), (150, 6), (156, 0), (156, 1), (156, 2), (170, -1), (171, -1), (172, -1)] S G) rfl)
                  have ci282 : CI E S (hw [(128, 0)] G G276) := (ci_hw ci rfl)
                  refine r_peekN hX (tl_131 9 rfl (by decide)) rdr_s (fun tep283 tep283e tep283s => ?_)
                  have pqe : tep283 = (hw [(128, 0)] G G276) 131 rdr 9 := tep283e
                  exact r_retI hX hP rfl rfl (by first | decide | omega) (by first | decide | omega) ⟨g281, (-1), rfl, evn, evn_e, la, la_e, len, len_e, f0, f0_e, p0, p0_e, (by first | decide | omega), (by first | decide | omega), (Or.inr ⟨(by first | decide | omega), (by first | decide | omega), (by first | decide | omega), (by first | decide | omega), (by first | decide | omega), (by first | decide | omega), (by first | decide | omega)⟩), ci282, (fun i h0 h1 => elk_156 ci ev_s (frm_tr (frm_refl gk156 S G) (frm_hw rfl)) h0 (by rw [← evn_e]; exact h1)), (Or.inl rfl), (fun u u0 hu hn => ⟨hn, rfl, rfl⟩), (fun p => ⟨(tep283s.elim (fun q => absurd (show 0 ≤ tep283 from by rw [pqe]; exact p) (by rw [q]; decide)) (fun q => by rw [← pqe]; exact q)), ne2 p⟩)⟩
              · skip
                exfalso; omega
            · skip
              exfalso; omega
            · skip
              exfalso; omega
          · skip
            refine r_ex hX hP 2 (pc' := 118) (st' := [(0, 1), (0, 1), (0, l7_j72), (0, 0), (2, this)]) (lo' := [(0, (2, this)), (1, (0, paper)), (2, (0, n)), (3, (0, ex)), (4, (0, record)), (5, (0, last)), (6, (0, known)), (7, (0, l7_j72))]) rfl ?_
            refine r_callS gd hX hP rfl cs_X11_112 (d' := 0) (mc' := 0) (ms' := 0) (as' := [(0, 0), (0, l7_j72), (0, 1), (0, 1)]) (st := [(2, this)]) (by first | decide | omega) (by first | decide | omega) (by first | decide | omega) rfl rfl (Nat.le_of_ble_eq_true rfl) (c_X11_first E S G 0 l7_j72 1 1 (by first | decide | omega) (by first | decide | omega) (by first | decide | omega) (by first | decide | omega) (by first | decide | omega) (by first | decide | omega) (by first | decide | omega) (by first | decide | omega)) ?_
            rintro _ _ _ ⟨rfl, rfl, z284, rfl, (⟨rfl, f285⟩ | ⟨rfl, f286, f287⟩ | ⟨rfl, f288, f289, f290⟩ | ⟨rfl, f291, f292, f293, f294⟩ | ⟨rfl, f295, f296, f297, f298⟩)⟩
            · skip
              exfalso; omega
            · skip
              refine r_callV gd hX hP rfl cv_X11_90_128 hS (d' := 0) (mc' := 0) (ms' := 0) (as' := [(0, 2)]) (st := []) (by first | decide | omega) (by first | decide | omega) (by first | decide | omega) rfl rfl (Nat.le_of_ble_eq_true rfl) (c_X11_refused E S G this 2 hS (by first | decide | omega) (by first | decide | omega)) ?_
              rintro _ _ _ ⟨rfl, ⟨G299, rfl⟩, z300, rfl, (⟨rfl, f301⟩ | ⟨rfl, f302⟩)⟩
              · skip
                refine r_if_eq hX hP rfl (tgt := 129) rfl (by first | decide | omega) (by first | decide | omega) (fun c303 => ?_) (fun c303 => ?_)
                · skip
                  exfalso; omega
                · skip
                  refine r_ex hX hP 1 (pc' := 128) (st' := [(0, (-1))]) (lo' := [(0, (2, this)), (1, (0, paper)), (2, (0, n)), (3, (0, ex)), (4, (0, record)), (5, (0, last)), (6, (0, known)), (7, (0, l7_j72))]) rfl ?_
                  have g304 : Gr [119, 120, 121, 122, 123, 124, 125, 126, 127, 136, 137, 149, 150, 160, 161, 162, 163, 164, 165, 166, 167, 168, 169, 170, 171, 172, 173, 174, 175, 176, 177, 178, 179, 180, 181, 182, 183, 184, 185] [(106, -1), (107, -1), (119, -1), (120, -1), (121, -1), (122, -1), (123, -1), (124, -1), (128, 0), (128, 1), (129, 1), (131, 0), (131, 1), (131, 2), (131, 4), (131, 5), (131, 6), (131, 7), (131, 8), (131, 9), (131, 10), (131, 11), (131, 13), (131, 14), (136, 0), (136, 1), (136, 2), (149, 2), (149, 3), (149, 4), (149, 5), (149, 6), (149, 7), (149, 8), (149, 9), (149, 10), (149, 11), (149, 12), (149, 13), (149, 14), (149, 15), (150, 0), (150, 1), (150, 2), (150, 3), (150, 4), (150, 5), (150, 6), (156, 0), (156, 1), (156, 2), (170, -1), (171, -1), (172, -1)] S G S (hw [(128, 0)] G G299) := (gr_hw (gr_refl [119, 120, 121, 122, 123, 124, 125, 126, 127, 136, 137, 149, 150, 160, 161, 162, 163, 164, 165, 166, 167, 168, 169, 170, 171, 172, 173, 174, 175, 176, 177, 178, 179, 180, 181, 182, 183, 184, 185] [(106, -1), (107, -1), (119, -1), (120, -1), (121, -1), (122, -1), (123, -1), (124, -1), (128, 0), (128, 1), (129, 1), (131, 0), (131, 1), (131, 2), (131, 4), (131, 5), (131, 6), (131, 7), (131, 8), (131, 9), (131, 10), (131, 11), (131, 13), (131, 14), (136, 0), (136, 1), (136, 2), (149, 2), (149, 3), (149, 4), (149, 5), (149, 6), (149, 7), (149, 8), (149, 9), (149, 10), (149, 11), (149, 12), (149, 13), (149, 14), (149, 15), (150, 0), (150, 1), (150, 2), (150, 3), (150, 4), (150, 5), (150, 6), (156, 0), (156, 1), (156, 2), (170, -1), (171, -1), (172, -1)] S G) rfl)
                  have ci305 : CI E S (hw [(128, 0)] G G299) := (ci_hw ci rfl)
                  refine r_peekN hX (tl_131 9 rfl (by decide)) rdr_s (fun tep306 tep306e tep306s => ?_)
                  have pqe : tep306 = (hw [(128, 0)] G G299) 131 rdr 9 := tep306e
                  exact r_retI hX hP rfl rfl (by first | decide | omega) (by first | decide | omega) ⟨g304, (-1), rfl, evn, evn_e, la, la_e, len, len_e, f0, f0_e, p0, p0_e, (by first | decide | omega), (by first | decide | omega), (Or.inr ⟨(by first | decide | omega), (by first | decide | omega), (by first | decide | omega), (by first | decide | omega), (by first | decide | omega), (by first | decide | omega), (by first | decide | omega)⟩), ci305, (fun i h0 h1 => elk_156 ci ev_s (frm_tr (frm_refl gk156 S G) (frm_hw rfl)) h0 (by rw [← evn_e]; exact h1)), (Or.inl rfl), (fun u u0 hu hn => ⟨hn, rfl, rfl⟩), (fun p => ⟨(tep306s.elim (fun q => absurd (show 0 ≤ tep306 from by rw [pqe]; exact p) (by rw [q]; decide)) (fun q => by rw [← pqe]; exact q)), ne2 p⟩)⟩
              · skip
                exfalso; omega
            · skip
              refine r_callV gd hX hP rfl cv_X11_90_128 hS (d' := 0) (mc' := 0) (ms' := 0) (as' := [(0, 3)]) (st := []) (by first | decide | omega) (by first | decide | omega) (by first | decide | omega) rfl rfl (Nat.le_of_ble_eq_true rfl) (c_X11_refused E S G this 3 hS (by first | decide | omega) (by first | decide | omega)) ?_
              rintro _ _ _ ⟨rfl, ⟨G307, rfl⟩, z308, rfl, (⟨rfl, f309⟩ | ⟨rfl, f310⟩)⟩
              · skip
                refine r_if_eq hX hP rfl (tgt := 129) rfl (by first | decide | omega) (by first | decide | omega) (fun c311 => ?_) (fun c311 => ?_)
                · skip
                  exfalso; omega
                · skip
                  refine r_ex hX hP 1 (pc' := 128) (st' := [(0, (-1))]) (lo' := [(0, (2, this)), (1, (0, paper)), (2, (0, n)), (3, (0, ex)), (4, (0, record)), (5, (0, last)), (6, (0, known)), (7, (0, l7_j72))]) rfl ?_
                  have g312 : Gr [119, 120, 121, 122, 123, 124, 125, 126, 127, 136, 137, 149, 150, 160, 161, 162, 163, 164, 165, 166, 167, 168, 169, 170, 171, 172, 173, 174, 175, 176, 177, 178, 179, 180, 181, 182, 183, 184, 185] [(106, -1), (107, -1), (119, -1), (120, -1), (121, -1), (122, -1), (123, -1), (124, -1), (128, 0), (128, 1), (129, 1), (131, 0), (131, 1), (131, 2), (131, 4), (131, 5), (131, 6), (131, 7), (131, 8), (131, 9), (131, 10), (131, 11), (131, 13), (131, 14), (136, 0), (136, 1), (136, 2), (149, 2), (149, 3), (149, 4), (149, 5), (149, 6), (149, 7), (149, 8), (149, 9), (149, 10), (149, 11), (149, 12), (149, 13), (149, 14), (149, 15), (150, 0), (150, 1), (150, 2), (150, 3), (150, 4), (150, 5), (150, 6), (156, 0), (156, 1), (156, 2), (170, -1), (171, -1), (172, -1)] S G S (hw [(128, 0)] G G307) := (gr_hw (gr_refl [119, 120, 121, 122, 123, 124, 125, 126, 127, 136, 137, 149, 150, 160, 161, 162, 163, 164, 165, 166, 167, 168, 169, 170, 171, 172, 173, 174, 175, 176, 177, 178, 179, 180, 181, 182, 183, 184, 185] [(106, -1), (107, -1), (119, -1), (120, -1), (121, -1), (122, -1), (123, -1), (124, -1), (128, 0), (128, 1), (129, 1), (131, 0), (131, 1), (131, 2), (131, 4), (131, 5), (131, 6), (131, 7), (131, 8), (131, 9), (131, 10), (131, 11), (131, 13), (131, 14), (136, 0), (136, 1), (136, 2), (149, 2), (149, 3), (149, 4), (149, 5), (149, 6), (149, 7), (149, 8), (149, 9), (149, 10), (149, 11), (149, 12), (149, 13), (149, 14), (149, 15), (150, 0), (150, 1), (150, 2), (150, 3), (150, 4), (150, 5), (150, 6), (156, 0), (156, 1), (156, 2), (170, -1), (171, -1), (172, -1)] S G) rfl)
                  have ci313 : CI E S (hw [(128, 0)] G G307) := (ci_hw ci rfl)
                  refine r_peekN hX (tl_131 9 rfl (by decide)) rdr_s (fun tep314 tep314e tep314s => ?_)
                  have pqe : tep314 = (hw [(128, 0)] G G307) 131 rdr 9 := tep314e
                  exact r_retI hX hP rfl rfl (by first | decide | omega) (by first | decide | omega) ⟨g312, (-1), rfl, evn, evn_e, la, la_e, len, len_e, f0, f0_e, p0, p0_e, (by first | decide | omega), (by first | decide | omega), (Or.inr ⟨(by first | decide | omega), (by first | decide | omega), (by first | decide | omega), (by first | decide | omega), (by first | decide | omega), (by first | decide | omega), (by first | decide | omega)⟩), ci313, (fun i h0 h1 => elk_156 ci ev_s (frm_tr (frm_refl gk156 S G) (frm_hw rfl)) h0 (by rw [← evn_e]; exact h1)), (Or.inl rfl), (fun u u0 hu hn => ⟨hn, rfl, rfl⟩), (fun p => ⟨(tep314s.elim (fun q => absurd (show 0 ≤ tep314 from by rw [pqe]; exact p) (by rw [q]; decide)) (fun q => by rw [← pqe]; exact q)), ne2 p⟩)⟩
              · skip
                exfalso; omega
            · skip
              exfalso; omega
            · skip
              exfalso; omega
      · skip
        exfalso; omega
    · skip
      refine r_if_ne hX hP rfl (tgt := 84) rfl (by first | decide | omega) (by first | decide | omega) (fun c315 => ?_) (fun c315 => ?_)
      · skip
        exfalso; omega
      · skip
        refine r_ex hX hP 4 (pc' := 88) (st' := [(2, this), (0, l7_j72), (0, 1), (2, this)]) (lo' := [(0, (2, this)), (1, (0, paper)), (2, (0, n)), (3, (0, ex)), (4, (0, record)), (5, (0, last)), (6, (0, known)), (7, (0, l7_j72))]) rfl ?_
        refine r_getKR hX hP rfl fl_X11_37_128 hS (x := ev) ev_e ?_
        refine r_callV gd hX hP rfl cv_X11_125_156 ev_s (d' := 0) (mc' := 0) (ms' := 0) (as' := []) (st := [(0, l7_j72), (0, 1), (2, this)]) (by first | decide | omega) (by first | decide | omega) (by first | decide | omega) rfl rfl (Nat.le_of_ble_eq_true rfl) (c_size_Lev E S G ev  ev_s evn evn_e) ?_
        rintro _ _ _ ⟨rfl, rfl, z316, rfl, z316a, z316b, f317⟩
        refine r_ex hX hP 1 (pc' := 96) (st' := [(0, 16), (0, z316), (0, l7_j72), (0, 1), (2, this)]) (lo' := [(0, (2, this)), (1, (0, paper)), (2, (0, n)), (3, (0, ex)), (4, (0, record)), (5, (0, last)), (6, (0, known)), (7, (0, l7_j72))]) rfl ?_
        refine r_ic_lt hX hP rfl (tgt := 103) rfl (by first | decide | omega) (by first | decide | omega) (by first | decide | omega) (by first | decide | omega) (fun c318 => ?_) (fun c318 => ?_)
        · skip
          refine r_ex hX hP 3 (pc' := 107) (st' := [(2, this), (0, known), (0, 0), (0, l7_j72), (0, 1), (2, this)]) (lo' := [(0, (2, this)), (1, (0, paper)), (2, (0, n)), (3, (0, ex)), (4, (0, record)), (5, (0, last)), (6, (0, known)), (7, (0, l7_j72))]) rfl ?_
          refine r_getKI hX hP rfl fl_X11_129_128 hS (x := la) la_e ?_
          refine r_ic_ge hX hP rfl (tgt := 117) rfl (by first | decide | omega) (by first | decide | omega) (by first | decide | omega) (by first | decide | omega) (fun c319 => ?_) (fun c319 => ?_)
          · skip
            refine r_ex hX hP 1 (pc' := 118) (st' := [(0, 0), (0, 0), (0, l7_j72), (0, 1), (2, this)]) (lo' := [(0, (2, this)), (1, (0, paper)), (2, (0, n)), (3, (0, ex)), (4, (0, record)), (5, (0, last)), (6, (0, known)), (7, (0, l7_j72))]) rfl ?_
            refine r_callS gd hX hP rfl cs_X11_112 (d' := 0) (mc' := 0) (ms' := 0) (as' := [(0, 1), (0, l7_j72), (0, 0), (0, 0)]) (st := [(2, this)]) (by first | decide | omega) (by first | decide | omega) (by first | decide | omega) rfl rfl (Nat.le_of_ble_eq_true rfl) (c_X11_first E S G 1 l7_j72 0 0 (by first | decide | omega) (by first | decide | omega) (by first | decide | omega) (by first | decide | omega) (by first | decide | omega) (by first | decide | omega) (by first | decide | omega) (by first | decide | omega)) ?_
            rintro _ _ _ ⟨rfl, rfl, z320, rfl, (⟨rfl, f321⟩ | ⟨rfl, f322, f323⟩ | ⟨rfl, f324, f325, f326⟩ | ⟨rfl, f327, f328, f329, f330⟩ | ⟨rfl, f331, f332, f333, f334⟩)⟩
            · skip
              refine r_callV gd hX hP rfl cv_X11_90_128 hS (d' := 0) (mc' := 0) (ms' := 0) (as' := [(0, 1)]) (st := []) (by first | decide | omega) (by first | decide | omega) (by first | decide | omega) rfl rfl (Nat.le_of_ble_eq_true rfl) (c_X11_refused E S G this 1 hS (by first | decide | omega) (by first | decide | omega)) ?_
              rintro _ _ _ ⟨rfl, ⟨G335, rfl⟩, z336, rfl, (⟨rfl, f337⟩ | ⟨rfl, f338⟩)⟩
              · skip
                refine r_if_eq hX hP rfl (tgt := 129) rfl (by first | decide | omega) (by first | decide | omega) (fun c339 => ?_) (fun c339 => ?_)
                · skip
                  exfalso; omega
                · skip
                  refine r_ex hX hP 1 (pc' := 128) (st' := [(0, (-1))]) (lo' := [(0, (2, this)), (1, (0, paper)), (2, (0, n)), (3, (0, ex)), (4, (0, record)), (5, (0, last)), (6, (0, known)), (7, (0, l7_j72))]) rfl ?_
                  have g340 : Gr [119, 120, 121, 122, 123, 124, 125, 126, 127, 136, 137, 149, 150, 160, 161, 162, 163, 164, 165, 166, 167, 168, 169, 170, 171, 172, 173, 174, 175, 176, 177, 178, 179, 180, 181, 182, 183, 184, 185] [(106, -1), (107, -1), (119, -1), (120, -1), (121, -1), (122, -1), (123, -1), (124, -1), (128, 0), (128, 1), (129, 1), (131, 0), (131, 1), (131, 2), (131, 4), (131, 5), (131, 6), (131, 7), (131, 8), (131, 9), (131, 10), (131, 11), (131, 13), (131, 14), (136, 0), (136, 1), (136, 2), (149, 2), (149, 3), (149, 4), (149, 5), (149, 6), (149, 7), (149, 8), (149, 9), (149, 10), (149, 11), (149, 12), (149, 13), (149, 14), (149, 15), (150, 0), (150, 1), (150, 2), (150, 3), (150, 4), (150, 5), (150, 6), (156, 0), (156, 1), (156, 2), (170, -1), (171, -1), (172, -1)] S G S (hw [(128, 0)] G G335) := (gr_hw (gr_refl [119, 120, 121, 122, 123, 124, 125, 126, 127, 136, 137, 149, 150, 160, 161, 162, 163, 164, 165, 166, 167, 168, 169, 170, 171, 172, 173, 174, 175, 176, 177, 178, 179, 180, 181, 182, 183, 184, 185] [(106, -1), (107, -1), (119, -1), (120, -1), (121, -1), (122, -1), (123, -1), (124, -1), (128, 0), (128, 1), (129, 1), (131, 0), (131, 1), (131, 2), (131, 4), (131, 5), (131, 6), (131, 7), (131, 8), (131, 9), (131, 10), (131, 11), (131, 13), (131, 14), (136, 0), (136, 1), (136, 2), (149, 2), (149, 3), (149, 4), (149, 5), (149, 6), (149, 7), (149, 8), (149, 9), (149, 10), (149, 11), (149, 12), (149, 13), (149, 14), (149, 15), (150, 0), (150, 1), (150, 2), (150, 3), (150, 4), (150, 5), (150, 6), (156, 0), (156, 1), (156, 2), (170, -1), (171, -1), (172, -1)] S G) rfl)
                  have ci341 : CI E S (hw [(128, 0)] G G335) := (ci_hw ci rfl)
                  refine r_peekN hX (tl_131 9 rfl (by decide)) rdr_s (fun tep342 tep342e tep342s => ?_)
                  have pqe : tep342 = (hw [(128, 0)] G G335) 131 rdr 9 := tep342e
                  exact r_retI hX hP rfl rfl (by first | decide | omega) (by first | decide | omega) ⟨g340, (-1), rfl, evn, evn_e, la, la_e, len, len_e, f0, f0_e, p0, p0_e, (by first | decide | omega), (by first | decide | omega), (Or.inr ⟨(by first | decide | omega), (by first | decide | omega), (by first | decide | omega), (by first | decide | omega), (by first | decide | omega), (by first | decide | omega), (by first | decide | omega)⟩), ci341, (fun i h0 h1 => elk_156 ci ev_s (frm_tr (frm_refl gk156 S G) (frm_hw rfl)) h0 (by rw [← evn_e]; exact h1)), (Or.inl rfl), (fun u u0 hu hn => ⟨hn, rfl, rfl⟩), (fun p => ⟨(tep342s.elim (fun q => absurd (show 0 ≤ tep342 from by rw [pqe]; exact p) (by rw [q]; decide)) (fun q => by rw [← pqe]; exact q)), ne2 p⟩)⟩
              · skip
                exfalso; omega
            · skip
              exfalso; omega
            · skip
              exfalso; omega
            · skip
              exfalso; omega
            · skip
              exfalso; omega
          · skip
            refine r_ex hX hP 2 (pc' := 118) (st' := [(0, 1), (0, 0), (0, l7_j72), (0, 1), (2, this)]) (lo' := [(0, (2, this)), (1, (0, paper)), (2, (0, n)), (3, (0, ex)), (4, (0, record)), (5, (0, last)), (6, (0, known)), (7, (0, l7_j72))]) rfl ?_
            refine r_callS gd hX hP rfl cs_X11_112 (d' := 0) (mc' := 0) (ms' := 0) (as' := [(0, 1), (0, l7_j72), (0, 0), (0, 1)]) (st := [(2, this)]) (by first | decide | omega) (by first | decide | omega) (by first | decide | omega) rfl rfl (Nat.le_of_ble_eq_true rfl) (c_X11_first E S G 1 l7_j72 0 1 (by first | decide | omega) (by first | decide | omega) (by first | decide | omega) (by first | decide | omega) (by first | decide | omega) (by first | decide | omega) (by first | decide | omega) (by first | decide | omega)) ?_
            rintro _ _ _ ⟨rfl, rfl, z343, rfl, (⟨rfl, f344⟩ | ⟨rfl, f345, f346⟩ | ⟨rfl, f347, f348, f349⟩ | ⟨rfl, f350, f351, f352, f353⟩ | ⟨rfl, f354, f355, f356, f357⟩)⟩
            · skip
              refine r_callV gd hX hP rfl cv_X11_90_128 hS (d' := 0) (mc' := 0) (ms' := 0) (as' := [(0, 1)]) (st := []) (by first | decide | omega) (by first | decide | omega) (by first | decide | omega) rfl rfl (Nat.le_of_ble_eq_true rfl) (c_X11_refused E S G this 1 hS (by first | decide | omega) (by first | decide | omega)) ?_
              rintro _ _ _ ⟨rfl, ⟨G358, rfl⟩, z359, rfl, (⟨rfl, f360⟩ | ⟨rfl, f361⟩)⟩
              · skip
                refine r_if_eq hX hP rfl (tgt := 129) rfl (by first | decide | omega) (by first | decide | omega) (fun c362 => ?_) (fun c362 => ?_)
                · skip
                  exfalso; omega
                · skip
                  refine r_ex hX hP 1 (pc' := 128) (st' := [(0, (-1))]) (lo' := [(0, (2, this)), (1, (0, paper)), (2, (0, n)), (3, (0, ex)), (4, (0, record)), (5, (0, last)), (6, (0, known)), (7, (0, l7_j72))]) rfl ?_
                  have g363 : Gr [119, 120, 121, 122, 123, 124, 125, 126, 127, 136, 137, 149, 150, 160, 161, 162, 163, 164, 165, 166, 167, 168, 169, 170, 171, 172, 173, 174, 175, 176, 177, 178, 179, 180, 181, 182, 183, 184, 185] [(106, -1), (107, -1), (119, -1), (120, -1), (121, -1), (122, -1), (123, -1), (124, -1), (128, 0), (128, 1), (129, 1), (131, 0), (131, 1), (131, 2), (131, 4), (131, 5), (131, 6), (131, 7), (131, 8), (131, 9), (131, 10), (131, 11), (131, 13), (131, 14), (136, 0), (136, 1), (136, 2), (149, 2), (149, 3), (149, 4), (149, 5), (149, 6), (149, 7), (149, 8), (149, 9), (149, 10), (149, 11), (149, 12), (149, 13), (149, 14), (149, 15), (150, 0), (150, 1), (150, 2), (150, 3), (150, 4), (150, 5), (150, 6), (156, 0), (156, 1), (156, 2), (170, -1), (171, -1), (172, -1)] S G S (hw [(128, 0)] G G358) := (gr_hw (gr_refl [119, 120, 121, 122, 123, 124, 125, 126, 127, 136, 137, 149, 150, 160, 161, 162, 163, 164, 165, 166, 167, 168, 169, 170, 171, 172, 173, 174, 175, 176, 177, 178, 179, 180, 181, 182, 183, 184, 185] [(106, -1), (107, -1), (119, -1), (120, -1), (121, -1), (122, -1), (123, -1), (124, -1), (128, 0), (128, 1), (129, 1), (131, 0), (131, 1), (131, 2), (131, 4), (131, 5), (131, 6), (131, 7), (131, 8), (131, 9), (131, 10), (131, 11), (131, 13), (131, 14), (136, 0), (136, 1), (136, 2), (149, 2), (149, 3), (149, 4), (149, 5), (149, 6), (149, 7), (149, 8), (149, 9), (149, 10), (149, 11), (149, 12), (149, 13), (149, 14), (149, 15), (150, 0), (150, 1), (150, 2), (150, 3), (150, 4), (150, 5), (150, 6), (156, 0), (156, 1), (156, 2), (170, -1), (171, -1), (172, -1)] S G) rfl)
                  have ci364 : CI E S (hw [(128, 0)] G G358) := (ci_hw ci rfl)
                  refine r_peekN hX (tl_131 9 rfl (by decide)) rdr_s (fun tep365 tep365e tep365s => ?_)
                  have pqe : tep365 = (hw [(128, 0)] G G358) 131 rdr 9 := tep365e
                  exact r_retI hX hP rfl rfl (by first | decide | omega) (by first | decide | omega) ⟨g363, (-1), rfl, evn, evn_e, la, la_e, len, len_e, f0, f0_e, p0, p0_e, (by first | decide | omega), (by first | decide | omega), (Or.inr ⟨(by first | decide | omega), (by first | decide | omega), (by first | decide | omega), (by first | decide | omega), (by first | decide | omega), (by first | decide | omega), (by first | decide | omega)⟩), ci364, (fun i h0 h1 => elk_156 ci ev_s (frm_tr (frm_refl gk156 S G) (frm_hw rfl)) h0 (by rw [← evn_e]; exact h1)), (Or.inl rfl), (fun u u0 hu hn => ⟨hn, rfl, rfl⟩), (fun p => ⟨(tep365s.elim (fun q => absurd (show 0 ≤ tep365 from by rw [pqe]; exact p) (by rw [q]; decide)) (fun q => by rw [← pqe]; exact q)), ne2 p⟩)⟩
              · skip
                exfalso; omega
            · skip
              exfalso; omega
            · skip
              exfalso; omega
            · skip
              exfalso; omega
            · skip
              exfalso; omega
        · skip
          refine r_ex hX hP 4 (pc' := 107) (st' := [(2, this), (0, known), (0, 1), (0, l7_j72), (0, 1), (2, this)]) (lo' := [(0, (2, this)), (1, (0, paper)), (2, (0, n)), (3, (0, ex)), (4, (0, record)), (5, (0, last)), (6, (0, known)), (7, (0, l7_j72))]) rfl ?_
          refine r_getKI hX hP rfl fl_X11_129_128 hS (x := la) la_e ?_
          refine r_ic_ge hX hP rfl (tgt := 117) rfl (by first | decide | omega) (by first | decide | omega) (by first | decide | omega) (by first | decide | omega) (fun c366 => ?_) (fun c366 => ?_)
          · skip
            refine r_ex hX hP 1 (pc' := 118) (st' := [(0, 0), (0, 1), (0, l7_j72), (0, 1), (2, this)]) (lo' := [(0, (2, this)), (1, (0, paper)), (2, (0, n)), (3, (0, ex)), (4, (0, record)), (5, (0, last)), (6, (0, known)), (7, (0, l7_j72))]) rfl ?_
            refine r_callS gd hX hP rfl cs_X11_112 (d' := 0) (mc' := 0) (ms' := 0) (as' := [(0, 1), (0, l7_j72), (0, 1), (0, 0)]) (st := [(2, this)]) (by first | decide | omega) (by first | decide | omega) (by first | decide | omega) rfl rfl (Nat.le_of_ble_eq_true rfl) (c_X11_first E S G 1 l7_j72 1 0 (by first | decide | omega) (by first | decide | omega) (by first | decide | omega) (by first | decide | omega) (by first | decide | omega) (by first | decide | omega) (by first | decide | omega) (by first | decide | omega)) ?_
            rintro _ _ _ ⟨rfl, rfl, z367, rfl, (⟨rfl, f368⟩ | ⟨rfl, f369, f370⟩ | ⟨rfl, f371, f372, f373⟩ | ⟨rfl, f374, f375, f376, f377⟩ | ⟨rfl, f378, f379, f380, f381⟩)⟩
            · skip
              refine r_callV gd hX hP rfl cv_X11_90_128 hS (d' := 0) (mc' := 0) (ms' := 0) (as' := [(0, 1)]) (st := []) (by first | decide | omega) (by first | decide | omega) (by first | decide | omega) rfl rfl (Nat.le_of_ble_eq_true rfl) (c_X11_refused E S G this 1 hS (by first | decide | omega) (by first | decide | omega)) ?_
              rintro _ _ _ ⟨rfl, ⟨G382, rfl⟩, z383, rfl, (⟨rfl, f384⟩ | ⟨rfl, f385⟩)⟩
              · skip
                refine r_if_eq hX hP rfl (tgt := 129) rfl (by first | decide | omega) (by first | decide | omega) (fun c386 => ?_) (fun c386 => ?_)
                · skip
                  exfalso; omega
                · skip
                  refine r_ex hX hP 1 (pc' := 128) (st' := [(0, (-1))]) (lo' := [(0, (2, this)), (1, (0, paper)), (2, (0, n)), (3, (0, ex)), (4, (0, record)), (5, (0, last)), (6, (0, known)), (7, (0, l7_j72))]) rfl ?_
                  have g387 : Gr [119, 120, 121, 122, 123, 124, 125, 126, 127, 136, 137, 149, 150, 160, 161, 162, 163, 164, 165, 166, 167, 168, 169, 170, 171, 172, 173, 174, 175, 176, 177, 178, 179, 180, 181, 182, 183, 184, 185] [(106, -1), (107, -1), (119, -1), (120, -1), (121, -1), (122, -1), (123, -1), (124, -1), (128, 0), (128, 1), (129, 1), (131, 0), (131, 1), (131, 2), (131, 4), (131, 5), (131, 6), (131, 7), (131, 8), (131, 9), (131, 10), (131, 11), (131, 13), (131, 14), (136, 0), (136, 1), (136, 2), (149, 2), (149, 3), (149, 4), (149, 5), (149, 6), (149, 7), (149, 8), (149, 9), (149, 10), (149, 11), (149, 12), (149, 13), (149, 14), (149, 15), (150, 0), (150, 1), (150, 2), (150, 3), (150, 4), (150, 5), (150, 6), (156, 0), (156, 1), (156, 2), (170, -1), (171, -1), (172, -1)] S G S (hw [(128, 0)] G G382) := (gr_hw (gr_refl [119, 120, 121, 122, 123, 124, 125, 126, 127, 136, 137, 149, 150, 160, 161, 162, 163, 164, 165, 166, 167, 168, 169, 170, 171, 172, 173, 174, 175, 176, 177, 178, 179, 180, 181, 182, 183, 184, 185] [(106, -1), (107, -1), (119, -1), (120, -1), (121, -1), (122, -1), (123, -1), (124, -1), (128, 0), (128, 1), (129, 1), (131, 0), (131, 1), (131, 2), (131, 4), (131, 5), (131, 6), (131, 7), (131, 8), (131, 9), (131, 10), (131, 11), (131, 13), (131, 14), (136, 0), (136, 1), (136, 2), (149, 2), (149, 3), (149, 4), (149, 5), (149, 6), (149, 7), (149, 8), (149, 9), (149, 10), (149, 11), (149, 12), (149, 13), (149, 14), (149, 15), (150, 0), (150, 1), (150, 2), (150, 3), (150, 4), (150, 5), (150, 6), (156, 0), (156, 1), (156, 2), (170, -1), (171, -1), (172, -1)] S G) rfl)
                  have ci388 : CI E S (hw [(128, 0)] G G382) := (ci_hw ci rfl)
                  refine r_peekN hX (tl_131 9 rfl (by decide)) rdr_s (fun tep389 tep389e tep389s => ?_)
                  have pqe : tep389 = (hw [(128, 0)] G G382) 131 rdr 9 := tep389e
                  exact r_retI hX hP rfl rfl (by first | decide | omega) (by first | decide | omega) ⟨g387, (-1), rfl, evn, evn_e, la, la_e, len, len_e, f0, f0_e, p0, p0_e, (by first | decide | omega), (by first | decide | omega), (Or.inr ⟨(by first | decide | omega), (by first | decide | omega), (by first | decide | omega), (by first | decide | omega), (by first | decide | omega), (by first | decide | omega), (by first | decide | omega)⟩), ci388, (fun i h0 h1 => elk_156 ci ev_s (frm_tr (frm_refl gk156 S G) (frm_hw rfl)) h0 (by rw [← evn_e]; exact h1)), (Or.inl rfl), (fun u u0 hu hn => ⟨hn, rfl, rfl⟩), (fun p => ⟨(tep389s.elim (fun q => absurd (show 0 ≤ tep389 from by rw [pqe]; exact p) (by rw [q]; decide)) (fun q => by rw [← pqe]; exact q)), ne2 p⟩)⟩
              · skip
                exfalso; omega
            · skip
              exfalso; omega
            · skip
              exfalso; omega
            · skip
              exfalso; omega
            · skip
              exfalso; omega
          · skip
            refine r_ex hX hP 2 (pc' := 118) (st' := [(0, 1), (0, 1), (0, l7_j72), (0, 1), (2, this)]) (lo' := [(0, (2, this)), (1, (0, paper)), (2, (0, n)), (3, (0, ex)), (4, (0, record)), (5, (0, last)), (6, (0, known)), (7, (0, l7_j72))]) rfl ?_
            refine r_callS gd hX hP rfl cs_X11_112 (d' := 0) (mc' := 0) (ms' := 0) (as' := [(0, 1), (0, l7_j72), (0, 1), (0, 1)]) (st := [(2, this)]) (by first | decide | omega) (by first | decide | omega) (by first | decide | omega) rfl rfl (Nat.le_of_ble_eq_true rfl) (c_X11_first E S G 1 l7_j72 1 1 (by first | decide | omega) (by first | decide | omega) (by first | decide | omega) (by first | decide | omega) (by first | decide | omega) (by first | decide | omega) (by first | decide | omega) (by first | decide | omega)) ?_
            rintro _ _ _ ⟨rfl, rfl, z390, rfl, (⟨rfl, f391⟩ | ⟨rfl, f392, f393⟩ | ⟨rfl, f394, f395, f396⟩ | ⟨rfl, f397, f398, f399, f400⟩ | ⟨rfl, f401, f402, f403, f404⟩)⟩
            · skip
              refine r_callV gd hX hP rfl cv_X11_90_128 hS (d' := 0) (mc' := 0) (ms' := 0) (as' := [(0, 1)]) (st := []) (by first | decide | omega) (by first | decide | omega) (by first | decide | omega) rfl rfl (Nat.le_of_ble_eq_true rfl) (c_X11_refused E S G this 1 hS (by first | decide | omega) (by first | decide | omega)) ?_
              rintro _ _ _ ⟨rfl, ⟨G405, rfl⟩, z406, rfl, (⟨rfl, f407⟩ | ⟨rfl, f408⟩)⟩
              · skip
                refine r_if_eq hX hP rfl (tgt := 129) rfl (by first | decide | omega) (by first | decide | omega) (fun c409 => ?_) (fun c409 => ?_)
                · skip
                  exfalso; omega
                · skip
                  refine r_ex hX hP 1 (pc' := 128) (st' := [(0, (-1))]) (lo' := [(0, (2, this)), (1, (0, paper)), (2, (0, n)), (3, (0, ex)), (4, (0, record)), (5, (0, last)), (6, (0, known)), (7, (0, l7_j72))]) rfl ?_
                  have g410 : Gr [119, 120, 121, 122, 123, 124, 125, 126, 127, 136, 137, 149, 150, 160, 161, 162, 163, 164, 165, 166, 167, 168, 169, 170, 171, 172, 173, 174, 175, 176, 177, 178, 179, 180, 181, 182, 183, 184, 185] [(106, -1), (107, -1), (119, -1), (120, -1), (121, -1), (122, -1), (123, -1), (124, -1), (128, 0), (128, 1), (129, 1), (131, 0), (131, 1), (131, 2), (131, 4), (131, 5), (131, 6), (131, 7), (131, 8), (131, 9), (131, 10), (131, 11), (131, 13), (131, 14), (136, 0), (136, 1), (136, 2), (149, 2), (149, 3), (149, 4), (149, 5), (149, 6), (149, 7), (149, 8), (149, 9), (149, 10), (149, 11), (149, 12), (149, 13), (149, 14), (149, 15), (150, 0), (150, 1), (150, 2), (150, 3), (150, 4), (150, 5), (150, 6), (156, 0), (156, 1), (156, 2), (170, -1), (171, -1), (172, -1)] S G S (hw [(128, 0)] G G405) := (gr_hw (gr_refl [119, 120, 121, 122, 123, 124, 125, 126, 127, 136, 137, 149, 150, 160, 161, 162, 163, 164, 165, 166, 167, 168, 169, 170, 171, 172, 173, 174, 175, 176, 177, 178, 179, 180, 181, 182, 183, 184, 185] [(106, -1), (107, -1), (119, -1), (120, -1), (121, -1), (122, -1), (123, -1), (124, -1), (128, 0), (128, 1), (129, 1), (131, 0), (131, 1), (131, 2), (131, 4), (131, 5), (131, 6), (131, 7), (131, 8), (131, 9), (131, 10), (131, 11), (131, 13), (131, 14), (136, 0), (136, 1), (136, 2), (149, 2), (149, 3), (149, 4), (149, 5), (149, 6), (149, 7), (149, 8), (149, 9), (149, 10), (149, 11), (149, 12), (149, 13), (149, 14), (149, 15), (150, 0), (150, 1), (150, 2), (150, 3), (150, 4), (150, 5), (150, 6), (156, 0), (156, 1), (156, 2), (170, -1), (171, -1), (172, -1)] S G) rfl)
                  have ci411 : CI E S (hw [(128, 0)] G G405) := (ci_hw ci rfl)
                  refine r_peekN hX (tl_131 9 rfl (by decide)) rdr_s (fun tep412 tep412e tep412s => ?_)
                  have pqe : tep412 = (hw [(128, 0)] G G405) 131 rdr 9 := tep412e
                  exact r_retI hX hP rfl rfl (by first | decide | omega) (by first | decide | omega) ⟨g410, (-1), rfl, evn, evn_e, la, la_e, len, len_e, f0, f0_e, p0, p0_e, (by first | decide | omega), (by first | decide | omega), (Or.inr ⟨(by first | decide | omega), (by first | decide | omega), (by first | decide | omega), (by first | decide | omega), (by first | decide | omega), (by first | decide | omega), (by first | decide | omega)⟩), ci411, (fun i h0 h1 => elk_156 ci ev_s (frm_tr (frm_refl gk156 S G) (frm_hw rfl)) h0 (by rw [← evn_e]; exact h1)), (Or.inl rfl), (fun u u0 hu hn => ⟨hn, rfl, rfl⟩), (fun p => ⟨(tep412s.elim (fun q => absurd (show 0 ≤ tep412 from by rw [pqe]; exact p) (by rw [q]; decide)) (fun q => by rw [← pqe]; exact q)), ne2 p⟩)⟩
              · skip
                exfalso; omega
            · skip
              exfalso; omega
            · skip
              exfalso; omega
            · skip
              exfalso; omega
            · skip
              exfalso; omega
  refine r_ex hX hP 3 (pc' := 3) (st' := [(2, this), (0, 0), (0, n)]) (lo' := [(0, (2, this)), (1, (0, paper)), (2, (0, n)), (3, (0, ex)), (4, (0, record)), (5, (0, last)), (6, (0, known))]) rfl ?_
  refine r_getKR hX hP rfl fl_X11_71_128 hS (x := rdr) rdr_e ?_
  refine r_getKI hX hP rfl fl_X11_157_131 rdr_s (x := len) len_e ?_
  refine r_callS gd hX hP rfl cs_X11_103 (d' := 0) (mc' := 0) (ms' := 0) (as' := [(0, n), (0, 0), (0, len)]) (st := []) (by first | decide | omega) (by first | decide | omega) (by first | decide | omega) rfl rfl (Nat.le_of_ble_eq_true rfl) (c_X11_within E S G n 0 len (by first | decide | omega) (by first | decide | omega) (by first | decide | omega) (by first | decide | omega) (by first | decide | omega) (by first | decide | omega)) ?_
  rintro _ _ _ ⟨rfl, rfl, z413, rfl, (⟨rfl, f414, f415⟩ | ⟨rfl, f416⟩)⟩
  · skip
    refine r_if_eq hX hP rfl (tgt := 65) rfl (by first | decide | omega) (by first | decide | omega) (fun c417 => ?_) (fun c417 => ?_)
    · skip
      exfalso; omega
    · skip
      refine r_ex hX hP 1 (pc' := 16) (st' := [(0, ex)]) (lo' := [(0, (2, this)), (1, (0, paper)), (2, (0, n)), (3, (0, ex)), (4, (0, record)), (5, (0, last)), (6, (0, known))]) rfl ?_
      refine r_callS gd hX hP rfl cs_X11_86 (d' := 1) (mc' := 0) (ms' := 0) (as' := [(0, ex)]) (st := []) (by first | decide | omega) (by first | decide | omega) (by first | decide | omega) rfl rfl (Nat.le_of_ble_eq_true rfl) (c_X11_isDay E S G ex (by first | decide | omega) (by first | decide | omega)) ?_
      rintro _ _ _ ⟨rfl, rfl, z418, rfl, (⟨rfl, f419, f420⟩ | ⟨rfl, f421⟩)⟩
      · skip
        refine r_if_eq hX hP rfl (tgt := 65) rfl (by first | decide | omega) (by first | decide | omega) (fun c422 => ?_) (fun c422 => ?_)
        · skip
          exfalso; omega
        · skip
          refine r_ex hX hP 1 (pc' := 24) (st' := [(0, record)]) (lo' := [(0, (2, this)), (1, (0, paper)), (2, (0, n)), (3, (0, ex)), (4, (0, record)), (5, (0, last)), (6, (0, known))]) rfl ?_
          refine r_callS gd hX hP rfl cs_X11_86 (d' := 1) (mc' := 0) (ms' := 0) (as' := [(0, record)]) (st := []) (by first | decide | omega) (by first | decide | omega) (by first | decide | omega) rfl rfl (Nat.le_of_ble_eq_true rfl) (c_X11_isDay E S G record (by first | decide | omega) (by first | decide | omega)) ?_
          rintro _ _ _ ⟨rfl, rfl, z423, rfl, (⟨rfl, f424, f425⟩ | ⟨rfl, f426⟩)⟩
          · skip
            refine r_if_eq hX hP rfl (tgt := 65) rfl (by first | decide | omega) (by first | decide | omega) (fun c427 => ?_) (fun c427 => ?_)
            · skip
              exfalso; omega
            · skip
              refine r_ex hX hP 1 (pc' := 32) (st' := [(0, last)]) (lo' := [(0, (2, this)), (1, (0, paper)), (2, (0, n)), (3, (0, ex)), (4, (0, record)), (5, (0, last)), (6, (0, known))]) rfl ?_
              refine r_callS gd hX hP rfl cs_X11_86 (d' := 1) (mc' := 0) (ms' := 0) (as' := [(0, last)]) (st := []) (by first | decide | omega) (by first | decide | omega) (by first | decide | omega) rfl rfl (Nat.le_of_ble_eq_true rfl) (c_X11_isDay E S G last (by first | decide | omega) (by first | decide | omega)) ?_
              rintro _ _ _ ⟨rfl, rfl, z428, rfl, (⟨rfl, f429, f430⟩ | ⟨rfl, f431⟩)⟩
              · skip
                refine r_if_eq hX hP rfl (tgt := 65) rfl (by first | decide | omega) (by first | decide | omega) (fun c432 => ?_) (fun c432 => ?_)
                · skip
                  exfalso; omega
                · skip
                  refine r_ex hX hP 3 (pc' := 42) (st' := [(0, (record - ex))]) (lo' := [(0, (2, this)), (1, (0, paper)), (2, (0, n)), (3, (0, ex)), (4, (0, record)), (5, (0, last)), (6, (0, known))]) rfl ?_
                  refine r_mabsI hX hP rfl (tbg sg3 149 rfl rfl) (tbg sg3 150 rfl rfl) (tbg sg1 14 rfl rfl) (tbg sg3 151 rfl rfl) (by decide) (by decide) (by decide) (Nat.le_of_ble_eq_true rfl) (by first | decide | omega) (by first | decide | omega) (fun c433 => ?_) (fun c433 => ?_)
                  · skip
                    refine r_ex hX hP 1 (pc' := 47) (st' := [(0, 10), (0, (record - ex))]) (lo' := [(0, (2, this)), (1, (0, paper)), (2, (0, n)), (3, (0, ex)), (4, (0, record)), (5, (0, last)), (6, (0, known))]) rfl ?_
                    refine r_ic_gt hX hP rfl (tgt := 65) rfl (by first | decide | omega) (by first | decide | omega) (by first | decide | omega) (by first | decide | omega) (fun c434 => ?_) (fun c434 => ?_)
                    · skip
                      refine r_ex hX hP 3 (pc' := 72) (st' := []) (lo' := [(0, (2, this)), (1, (0, paper)), (2, (0, n)), (3, (0, ex)), (4, (0, record)), (5, (0, last)), (6, (0, known)), (7, (0, 1))]) rfl ?_
                      exact j72 1 (by first | decide | omega) (by first | decide | omega) (by first | decide | omega)
                    · skip
                      refine r_ex hX hP 2 (pc' := 54) (st' := [(0, record), (0, last)]) (lo' := [(0, (2, this)), (1, (0, paper)), (2, (0, n)), (3, (0, ex)), (4, (0, record)), (5, (0, last)), (6, (0, known))]) rfl ?_
                      refine r_ic_lt hX hP rfl (tgt := 65) rfl (by first | decide | omega) (by first | decide | omega) (by first | decide | omega) (by first | decide | omega) (fun c435 => ?_) (fun c435 => ?_)
                      · skip
                        refine r_ex hX hP 3 (pc' := 72) (st' := []) (lo' := [(0, (2, this)), (1, (0, paper)), (2, (0, n)), (3, (0, ex)), (4, (0, record)), (5, (0, last)), (6, (0, known)), (7, (0, 1))]) rfl ?_
                        exact j72 1 (by first | decide | omega) (by first | decide | omega) (by first | decide | omega)
                      · skip
                        refine r_ex hX hP 1 (pc' := 59) (st' := [(0, known)]) (lo' := [(0, (2, this)), (1, (0, paper)), (2, (0, n)), (3, (0, ex)), (4, (0, record)), (5, (0, last)), (6, (0, known))]) rfl ?_
                        refine r_callS gd hX hP rfl cs_X11_86 (d' := 1) (mc' := 0) (ms' := 0) (as' := [(0, known)]) (st := []) (by first | decide | omega) (by first | decide | omega) (by first | decide | omega) rfl rfl (Nat.le_of_ble_eq_true rfl) (c_X11_isDay E S G known (by first | decide | omega) (by first | decide | omega)) ?_
                        rintro _ _ _ ⟨rfl, rfl, z436, rfl, (⟨rfl, f437, f438⟩ | ⟨rfl, f439⟩)⟩
                        · skip
                          refine r_if_ne hX hP rfl (tgt := 69) rfl (by first | decide | omega) (by first | decide | omega) (fun c440 => ?_) (fun c440 => ?_)
                          · skip
                            refine r_ex hX hP 2 (pc' := 72) (st' := []) (lo' := [(0, (2, this)), (1, (0, paper)), (2, (0, n)), (3, (0, ex)), (4, (0, record)), (5, (0, last)), (6, (0, known)), (7, (0, 0))]) rfl ?_
                            exact j72 0 (by first | decide | omega) (by first | decide | omega) (by first | decide | omega)
                          · skip
                            exfalso; omega
                        · skip
                          refine r_if_ne hX hP rfl (tgt := 69) rfl (by first | decide | omega) (by first | decide | omega) (fun c441 => ?_) (fun c441 => ?_)
                          · skip
                            exfalso; omega
                          · skip
                            refine r_ex hX hP 3 (pc' := 72) (st' := []) (lo' := [(0, (2, this)), (1, (0, paper)), (2, (0, n)), (3, (0, ex)), (4, (0, record)), (5, (0, last)), (6, (0, known)), (7, (0, 1))]) rfl ?_
                            exact j72 1 (by first | decide | omega) (by first | decide | omega) (by first | decide | omega)
                  · skip
                    refine r_ex hX hP 1 (pc' := 47) (st' := [(0, 10), (0, (0 - (record - ex)))]) (lo' := [(0, (2, this)), (1, (0, paper)), (2, (0, n)), (3, (0, ex)), (4, (0, record)), (5, (0, last)), (6, (0, known))]) rfl ?_
                    refine r_ic_gt hX hP rfl (tgt := 65) rfl (by first | decide | omega) (by first | decide | omega) (by first | decide | omega) (by first | decide | omega) (fun c442 => ?_) (fun c442 => ?_)
                    · skip
                      refine r_ex hX hP 3 (pc' := 72) (st' := []) (lo' := [(0, (2, this)), (1, (0, paper)), (2, (0, n)), (3, (0, ex)), (4, (0, record)), (5, (0, last)), (6, (0, known)), (7, (0, 1))]) rfl ?_
                      exact j72 1 (by first | decide | omega) (by first | decide | omega) (by first | decide | omega)
                    · skip
                      refine r_ex hX hP 2 (pc' := 54) (st' := [(0, record), (0, last)]) (lo' := [(0, (2, this)), (1, (0, paper)), (2, (0, n)), (3, (0, ex)), (4, (0, record)), (5, (0, last)), (6, (0, known))]) rfl ?_
                      refine r_ic_lt hX hP rfl (tgt := 65) rfl (by first | decide | omega) (by first | decide | omega) (by first | decide | omega) (by first | decide | omega) (fun c443 => ?_) (fun c443 => ?_)
                      · skip
                        refine r_ex hX hP 3 (pc' := 72) (st' := []) (lo' := [(0, (2, this)), (1, (0, paper)), (2, (0, n)), (3, (0, ex)), (4, (0, record)), (5, (0, last)), (6, (0, known)), (7, (0, 1))]) rfl ?_
                        exact j72 1 (by first | decide | omega) (by first | decide | omega) (by first | decide | omega)
                      · skip
                        refine r_ex hX hP 1 (pc' := 59) (st' := [(0, known)]) (lo' := [(0, (2, this)), (1, (0, paper)), (2, (0, n)), (3, (0, ex)), (4, (0, record)), (5, (0, last)), (6, (0, known))]) rfl ?_
                        refine r_callS gd hX hP rfl cs_X11_86 (d' := 1) (mc' := 0) (ms' := 0) (as' := [(0, known)]) (st := []) (by first | decide | omega) (by first | decide | omega) (by first | decide | omega) rfl rfl (Nat.le_of_ble_eq_true rfl) (c_X11_isDay E S G known (by first | decide | omega) (by first | decide | omega)) ?_
                        rintro _ _ _ ⟨rfl, rfl, z444, rfl, (⟨rfl, f445, f446⟩ | ⟨rfl, f447⟩)⟩
                        · skip
                          refine r_if_ne hX hP rfl (tgt := 69) rfl (by first | decide | omega) (by first | decide | omega) (fun c448 => ?_) (fun c448 => ?_)
                          · skip
                            refine r_ex hX hP 2 (pc' := 72) (st' := []) (lo' := [(0, (2, this)), (1, (0, paper)), (2, (0, n)), (3, (0, ex)), (4, (0, record)), (5, (0, last)), (6, (0, known)), (7, (0, 0))]) rfl ?_
                            exact j72 0 (by first | decide | omega) (by first | decide | omega) (by first | decide | omega)
                          · skip
                            exfalso; omega
                        · skip
                          refine r_if_ne hX hP rfl (tgt := 69) rfl (by first | decide | omega) (by first | decide | omega) (fun c449 => ?_) (fun c449 => ?_)
                          · skip
                            exfalso; omega
                          · skip
                            refine r_ex hX hP 3 (pc' := 72) (st' := []) (lo' := [(0, (2, this)), (1, (0, paper)), (2, (0, n)), (3, (0, ex)), (4, (0, record)), (5, (0, last)), (6, (0, known)), (7, (0, 1))]) rfl ?_
                            exact j72 1 (by first | decide | omega) (by first | decide | omega) (by first | decide | omega)
              · skip
                refine r_if_eq hX hP rfl (tgt := 65) rfl (by first | decide | omega) (by first | decide | omega) (fun c450 => ?_) (fun c450 => ?_)
                · skip
                  refine r_ex hX hP 3 (pc' := 72) (st' := []) (lo' := [(0, (2, this)), (1, (0, paper)), (2, (0, n)), (3, (0, ex)), (4, (0, record)), (5, (0, last)), (6, (0, known)), (7, (0, 1))]) rfl ?_
                  exact j72 1 (by first | decide | omega) (by first | decide | omega) (by first | decide | omega)
                · skip
                  exfalso; omega
          · skip
            refine r_if_eq hX hP rfl (tgt := 65) rfl (by first | decide | omega) (by first | decide | omega) (fun c451 => ?_) (fun c451 => ?_)
            · skip
              refine r_ex hX hP 3 (pc' := 72) (st' := []) (lo' := [(0, (2, this)), (1, (0, paper)), (2, (0, n)), (3, (0, ex)), (4, (0, record)), (5, (0, last)), (6, (0, known)), (7, (0, 1))]) rfl ?_
              exact j72 1 (by first | decide | omega) (by first | decide | omega) (by first | decide | omega)
            · skip
              exfalso; omega
      · skip
        refine r_if_eq hX hP rfl (tgt := 65) rfl (by first | decide | omega) (by first | decide | omega) (fun c452 => ?_) (fun c452 => ?_)
        · skip
          refine r_ex hX hP 3 (pc' := 72) (st' := []) (lo' := [(0, (2, this)), (1, (0, paper)), (2, (0, n)), (3, (0, ex)), (4, (0, record)), (5, (0, last)), (6, (0, known)), (7, (0, 1))]) rfl ?_
          exact j72 1 (by first | decide | omega) (by first | decide | omega) (by first | decide | omega)
        · skip
          exfalso; omega
  · skip
    refine r_if_eq hX hP rfl (tgt := 65) rfl (by first | decide | omega) (by first | decide | omega) (fun c453 => ?_) (fun c453 => ?_)
    · skip
      refine r_ex hX hP 3 (pc' := 72) (st' := []) (lo' := [(0, (2, this)), (1, (0, paper)), (2, (0, n)), (3, (0, ex)), (4, (0, record)), (5, (0, last)), (6, (0, known)), (7, (0, 1))]) rfl ?_
      exact j72 1 (by first | decide | omega) (by first | decide | omega) (by first | decide | omega)
    · skip
      exfalso; omega

