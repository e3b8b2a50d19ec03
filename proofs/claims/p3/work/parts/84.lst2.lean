section CIA
variable {E : En} {S S' : Sg} {G G' : Gh} {nl : List Int} {ws : List (Int × Int)} {a : Int}
def djx (cf ws : List (Int × Int)) : Bool := cf.all (fun q => ws.all (fun p => !(p.1 == q.1 && (p.2 == -1 || q.2 == -1 || p.2 == q.2))))
theorem djx_out {cf ws : List (Int × Int)} (h : djx cf ws = true) {q : Int × Int} (hq : q ∈ cf) {j : Int} (hj : q.2 = -1 ∨ q.2 = j) : inm ws q.1 j = false := by
  cases e : inm ws q.1 j with
  | false => rfl
  | true =>
    exfalso
    obtain ⟨p, hp, e1, e2⟩ := inm_iff.mp e
    have h1 := List.all_eq_true.mp (List.all_eq_true.mp h q hq) p hp
    simp only [Bool.not_eq_true', Bool.and_eq_false_iff, Bool.or_eq_false_iff, beq_eq_false_iff_ne, ne_eq] at h1
    rcases h1 with h1 | h1
    · exact h1 e1
    · rcases e2 with e2 | e2
      · exact h1.1.1 e2
      · rcases hj with hj | hj
        · exact h1.1.2 hj
        · exact h1.2 (e2.trans hj.symm)
theorem gr_cx {cf : List (Int × Int)} (g : Gr nl ws S G S' G') (c2 : djx cf ws = true) {x L j : Int} (q : Int × Int) (hq : q ∈ cf) (e : q.1 = L) (hj : q.2 = -1 ∨ q.2 = j) (hx : S x = L) (hL : L ≠ 0) : G' L x j = G L x j := gr_at g hx hL (by subst e; exact djx_out c2 hq hj)
def cif0 : List (Int × Int) := [(120, -1), (121, -1), (136, 3), (136, 5), (138, 2), (155, 1), (155, 2), (156, 1), (156, 2), (157, 1), (157, 2), (158, 1), (158, 2), (159, 1), (159, 2), (165, -1), (166, -1), (167, -1), (168, -1), (169, -1), (170, -1), (171, -1), (172, -1), (173, -1), (174, -1), (175, -1), (176, -1), (177, -1), (178, -1), (179, -1), (180, -1), (181, -1), (182, -1), (183, -1), (184, -1), (185, -1)]
theorem ci_ad0 (h : CI E S G) (tk : TKP S G) (g : Gr nl ws S G S' G') (c1 : nlk nl = true) (c2 : djx cif0 ws = true) (hS : S a = 154) (lb : LB0 E S' G' a) (hz : G 154 a 2 ≤ G' 154 a 2) : CI E S' G' := by
  obtain ⟨a0, a1, a2, a3, a4, a5, a6, a7, a8, a9⟩ := h
  refine ⟨?_, ?_, ?_, ?_, ?_, ?_, ?_, ?_, ?_, ?_⟩
  · intro a b hab hu
    have ha := gr_bk g c1 (by unfold cil; rw [hu]; rfl) (rfl : S' a = S' a)
    have hb := gr_bk g c1 (by unfold cil; rw [hu]; rfl) hab.symm
    exact a0 a b (ha.trans hb.symm) (by rw [ha]; exact hu)
  · intro l hl
    have hl := gr_bk g c1 rfl hl
    rw [a0 l a (hl.trans hS.symm) (by rw [hl]; rfl)]
    exact lb
  · intro l hl
    have hl := gr_bk g c1 rfl hl
    rw [(gr_cx g c2 (155, 1) (by decide) (L := 155) (j := 1) rfl (Or.inr rfl) hl (by decide)), (gr_cx g c2 (155, 2) (by decide) (L := 155) (j := 2) rfl (Or.inr rfl) hl (by decide))]
    rcases a2 l hl with q | ⟨q1, q2, q3⟩ | ⟨q1, q2, q3⟩ | ⟨q1, q2, q3⟩ | ⟨q1, q2, q3⟩ | ⟨q1, q2, q3⟩
    · exact Or.inl q
    · exact Or.inr (Or.inl (⟨gr_lab g q1 (by decide), q2, fun i h0 h1 => by rw [(gr_cx g c2 (165, -1) (by decide) (L := 165) rfl (Or.inl rfl) q1 (by decide))]; exact gr_lab g (q3 i h0 h1) (by decide)⟩))
    · exact Or.inr (Or.inr (Or.inl (⟨gr_lab g q1 (by decide), q2, fun i h0 h1 => by rw [(gr_cx g c2 (166, -1) (by decide) (L := 166) rfl (Or.inl rfl) q1 (by decide))]; exact gr_lab g (q3 i h0 h1) (by decide)⟩)))
    · exact Or.inr (Or.inr (Or.inr (Or.inl (⟨gr_lab g q1 (by decide), q2, fun i h0 h1 => by rw [(gr_cx g c2 (167, -1) (by decide) (L := 167) rfl (Or.inl rfl) q1 (by decide))]; exact gr_lab g (q3 i h0 h1) (by decide)⟩))))
    · exact Or.inr (Or.inr (Or.inr (Or.inr (Or.inl (⟨gr_lab g q1 (by decide), q2, fun i h0 h1 => by rw [(gr_cx g c2 (168, -1) (by decide) (L := 168) rfl (Or.inl rfl) q1 (by decide))]; exact gr_lab g (q3 i h0 h1) (by decide)⟩)))))
    · exact Or.inr (Or.inr (Or.inr (Or.inr (Or.inr (⟨gr_lab g q1 (by decide), q2, fun i h0 h1 => by rw [(gr_cx g c2 (169, -1) (by decide) (L := 169) rfl (Or.inl rfl) q1 (by decide))]; exact gr_lab g (q3 i h0 h1) (by decide)⟩)))))
  · intro l hl
    have hl := gr_bk g c1 rfl hl
    rw [(gr_cx g c2 (156, 1) (by decide) (L := 156) (j := 1) rfl (Or.inr rfl) hl (by decide)), (gr_cx g c2 (156, 2) (by decide) (L := 156) (j := 2) rfl (Or.inr rfl) hl (by decide))]
    rcases a3 l hl with q | ⟨q1, q2, q3⟩ | ⟨q1, q2, q3⟩ | ⟨q1, q2, q3⟩
    · exact Or.inl q
    · exact Or.inr (Or.inl (⟨gr_lab g q1 (by decide), q2, fun i h0 h1 => by rw [(gr_cx g c2 (170, -1) (by decide) (L := 170) rfl (Or.inl rfl) q1 (by decide))]; exact gr_lab g (q3 i h0 h1) (by decide)⟩))
    · exact Or.inr (Or.inr (Or.inl (⟨gr_lab g q1 (by decide), q2, fun i h0 h1 => by rw [(gr_cx g c2 (171, -1) (by decide) (L := 171) rfl (Or.inl rfl) q1 (by decide))]; exact gr_lab g (q3 i h0 h1) (by decide)⟩)))
    · exact Or.inr (Or.inr (Or.inr (⟨gr_lab g q1 (by decide), q2, fun i h0 h1 => by rw [(gr_cx g c2 (172, -1) (by decide) (L := 172) rfl (Or.inl rfl) q1 (by decide))]; exact gr_lab g (q3 i h0 h1) (by decide)⟩)))
  · intro l hl
    have hl := gr_bk g c1 rfl hl
    rw [(gr_cx g c2 (157, 1) (by decide) (L := 157) (j := 1) rfl (Or.inr rfl) hl (by decide)), (gr_cx g c2 (157, 2) (by decide) (L := 157) (j := 2) rfl (Or.inr rfl) hl (by decide))]
    rcases a4 l hl with q | ⟨q1, q2, q3⟩ | ⟨q1, q2, q3⟩ | ⟨q1, q2, q3⟩ | ⟨q1, q2, q3⟩ | ⟨q1, q2, q3⟩ | ⟨q1, q2, q3⟩
    · exact Or.inl q
    · exact Or.inr (Or.inl (⟨gr_lab g q1 (by decide), q2, fun i h0 h1 => by rw [(gr_cx g c2 (173, -1) (by decide) (L := 173) rfl (Or.inl rfl) q1 (by decide))]; exact gr_lab g (q3 i h0 h1) (by decide)⟩))
    · exact Or.inr (Or.inr (Or.inl (⟨gr_lab g q1 (by decide), q2, fun i h0 h1 => by rw [(gr_cx g c2 (174, -1) (by decide) (L := 174) rfl (Or.inl rfl) q1 (by decide))]; exact gr_lab g (q3 i h0 h1) (by decide)⟩)))
    · exact Or.inr (Or.inr (Or.inr (Or.inl (⟨gr_lab g q1 (by decide), q2, fun i h0 h1 => by rw [(gr_cx g c2 (175, -1) (by decide) (L := 175) rfl (Or.inl rfl) q1 (by decide))]; exact gr_lab g (q3 i h0 h1) (by decide)⟩))))
    · exact Or.inr (Or.inr (Or.inr (Or.inr (Or.inl (⟨gr_lab g q1 (by decide), q2, fun i h0 h1 => by rw [(gr_cx g c2 (176, -1) (by decide) (L := 176) rfl (Or.inl rfl) q1 (by decide))]; exact gr_lab g (q3 i h0 h1) (by decide)⟩)))))
    · exact Or.inr (Or.inr (Or.inr (Or.inr (Or.inr (Or.inl (⟨gr_lab g q1 (by decide), q2, fun i h0 h1 => by rw [(gr_cx g c2 (177, -1) (by decide) (L := 177) rfl (Or.inl rfl) q1 (by decide))]; exact gr_lab g (q3 i h0 h1) (by decide)⟩))))))
    · exact Or.inr (Or.inr (Or.inr (Or.inr (Or.inr (Or.inr (⟨gr_lab g q1 (by decide), q2, fun i h0 h1 => by rw [(gr_cx g c2 (178, -1) (by decide) (L := 178) rfl (Or.inl rfl) q1 (by decide))]; exact gr_lab g (q3 i h0 h1) (by decide)⟩))))))
  · intro l hl
    have hl := gr_bk g c1 rfl hl
    rw [(gr_cx g c2 (158, 1) (by decide) (L := 158) (j := 1) rfl (Or.inr rfl) hl (by decide)), (gr_cx g c2 (158, 2) (by decide) (L := 158) (j := 2) rfl (Or.inr rfl) hl (by decide))]
    rcases a5 l hl with q | ⟨q1, q2, q3⟩
    · exact Or.inl q
    · exact Or.inr (⟨gr_lab g q1 (by decide), q2, fun i h0 h1 => by rw [(gr_cx g c2 (179, -1) (by decide) (L := 179) rfl (Or.inl rfl) q1 (by decide))]; exact gr_lab g (q3 i h0 h1) (by decide)⟩)
  · intro l hl
    have hl := gr_bk g c1 rfl hl
    rw [(gr_cx g c2 (159, 1) (by decide) (L := 159) (j := 1) rfl (Or.inr rfl) hl (by decide)), (gr_cx g c2 (159, 2) (by decide) (L := 159) (j := 2) rfl (Or.inr rfl) hl (by decide))]
    rcases a6 l hl with q | ⟨q1, q2, q3⟩ | ⟨q1, q2, q3⟩ | ⟨q1, q2, q3⟩ | ⟨q1, q2, q3⟩ | ⟨q1, q2, q3⟩ | ⟨q1, q2, q3⟩
    · exact Or.inl q
    · exact Or.inr (Or.inl (⟨gr_lab g q1 (by decide), q2, fun i h0 h1 => by rw [(gr_cx g c2 (180, -1) (by decide) (L := 180) rfl (Or.inl rfl) q1 (by decide))]; exact gr_lab g (q3 i h0 h1) (by decide)⟩))
    · exact Or.inr (Or.inr (Or.inl (⟨gr_lab g q1 (by decide), q2, fun i h0 h1 => by rw [(gr_cx g c2 (181, -1) (by decide) (L := 181) rfl (Or.inl rfl) q1 (by decide))]; exact gr_lab g (q3 i h0 h1) (by decide)⟩)))
    · exact Or.inr (Or.inr (Or.inr (Or.inl (⟨gr_lab g q1 (by decide), q2, fun i h0 h1 => by rw [(gr_cx g c2 (182, -1) (by decide) (L := 182) rfl (Or.inl rfl) q1 (by decide))]; exact gr_lab g (q3 i h0 h1) (by decide)⟩))))
    · exact Or.inr (Or.inr (Or.inr (Or.inr (Or.inl (⟨gr_lab g q1 (by decide), q2, fun i h0 h1 => by rw [(gr_cx g c2 (183, -1) (by decide) (L := 183) rfl (Or.inl rfl) q1 (by decide))]; exact gr_lab g (q3 i h0 h1) (by decide)⟩)))))
    · exact Or.inr (Or.inr (Or.inr (Or.inr (Or.inr (Or.inl (⟨gr_lab g q1 (by decide), q2, fun i h0 h1 => by rw [(gr_cx g c2 (184, -1) (by decide) (L := 184) rfl (Or.inl rfl) q1 (by decide))]; exact gr_lab g (q3 i h0 h1) (by decide)⟩))))))
    · exact Or.inr (Or.inr (Or.inr (Or.inr (Or.inr (Or.inr (⟨gr_lab g q1 (by decide), q2, fun i h0 h1 => by rw [(gr_cx g c2 (185, -1) (by decide) (L := 185) rfl (Or.inl rfl) q1 (by decide))]; exact gr_lab g (q3 i h0 h1) (by decide)⟩))))))
  · intro t ht i h0 h1 hh
    have ht := gr_bk g c1 rfl ht
    rw [(gr_cx g c2 (136, 3) (by decide) (L := 136) (j := 3) rfl (Or.inr rfl) ht (by decide)), (gr_cx g c2 (120, -1) (by decide) (L := 120) rfl (Or.inl rfl) (tk t ht).1 (by decide))] at hh
    rw [(gr_cx g c2 (136, 5) (by decide) (L := 136) (j := 5) rfl (Or.inr rfl) ht (by decide)), (gr_cx g c2 (121, -1) (by decide) (L := 121) rfl (Or.inl rfl) (tk t ht).2 (by decide))]
    exact a7 t ht i h0 h1 hh
  · intro t u ht hu hh
    have ht := gr_bk g c1 rfl ht
    have hu := gr_bk g c1 rfl hu
    rw [(gr_cx g c2 (136, 3) (by decide) (L := 136) (j := 3) rfl (Or.inr rfl) ht (by decide)), (gr_cx g c2 (136, 3) (by decide) (L := 136) (j := 3) rfl (Or.inr rfl) hu (by decide)), (gr_cx g c2 (136, 5) (by decide) (L := 136) (j := 5) rfl (Or.inr rfl) ht (by decide)), (gr_cx g c2 (136, 5) (by decide) (L := 136) (j := 5) rfl (Or.inr rfl) hu (by decide))] at hh
    exact a8 t u ht hu hh
  · intro p l hp hl
    have hp := gr_bk g c1 rfl hp
    have hl := gr_bk g c1 rfl hl
    rw [(gr_cx g c2 (138, 2) (by decide) (L := 138) (j := 2) rfl (Or.inr rfl) hp (by decide)), (gr_cx g c2 (156, 2) (by decide) (L := 156) (j := 2) rfl (Or.inr rfl) hl (by decide))]
    exact a9 p l hp hl
def cif1 : List (Int × Int) := [(120, -1), (121, -1), (136, 3), (136, 5), (138, 2), (154, 1), (154, 2), (156, 1), (156, 2), (157, 1), (157, 2), (158, 1), (158, 2), (159, 1), (159, 2), (160, -1), (161, -1), (162, -1), (163, -1), (164, -1), (170, -1), (171, -1), (172, -1), (173, -1), (174, -1), (175, -1), (176, -1), (177, -1), (178, -1), (179, -1), (180, -1), (181, -1), (182, -1), (183, -1), (184, -1), (185, -1)]
theorem ci_ad1 (h : CI E S G) (tk : TKP S G) (g : Gr nl ws S G S' G') (c1 : nlk nl = true) (c2 : djx cif1 ws = true) (hS : S a = 155) (lb : LB1 E S' G' a) (hz : G 155 a 2 ≤ G' 155 a 2) : CI E S' G' := by
  obtain ⟨a0, a1, a2, a3, a4, a5, a6, a7, a8, a9⟩ := h
  refine ⟨?_, ?_, ?_, ?_, ?_, ?_, ?_, ?_, ?_, ?_⟩
  · intro a b hab hu
    have ha := gr_bk g c1 (by unfold cil; rw [hu]; rfl) (rfl : S' a = S' a)
    have hb := gr_bk g c1 (by unfold cil; rw [hu]; rfl) hab.symm
    exact a0 a b (ha.trans hb.symm) (by rw [ha]; exact hu)
  · intro l hl
    have hl := gr_bk g c1 rfl hl
    rw [(gr_cx g c2 (154, 1) (by decide) (L := 154) (j := 1) rfl (Or.inr rfl) hl (by decide)), (gr_cx g c2 (154, 2) (by decide) (L := 154) (j := 2) rfl (Or.inr rfl) hl (by decide))]
    rcases a1 l hl with q | ⟨q1, q2, q3⟩ | ⟨q1, q2, q3⟩ | ⟨q1, q2, q3⟩ | ⟨q1, q2, q3⟩ | ⟨q1, q2, q3⟩
    · exact Or.inl q
    · exact Or.inr (Or.inl (⟨gr_lab g q1 (by decide), q2, fun i h0 h1 => by rw [(gr_cx g c2 (160, -1) (by decide) (L := 160) rfl (Or.inl rfl) q1 (by decide))]; exact gr_lab g (q3 i h0 h1) (by decide)⟩))
    · exact Or.inr (Or.inr (Or.inl (⟨gr_lab g q1 (by decide), q2, fun i h0 h1 => by rw [(gr_cx g c2 (161, -1) (by decide) (L := 161) rfl (Or.inl rfl) q1 (by decide))]; exact gr_lab g (q3 i h0 h1) (by decide)⟩)))
    · exact Or.inr (Or.inr (Or.inr (Or.inl (⟨gr_lab g q1 (by decide), q2, fun i h0 h1 => by rw [(gr_cx g c2 (162, -1) (by decide) (L := 162) rfl (Or.inl rfl) q1 (by decide))]; exact gr_lab g (q3 i h0 h1) (by decide)⟩))))
    · exact Or.inr (Or.inr (Or.inr (Or.inr (Or.inl (⟨gr_lab g q1 (by decide), q2, fun i h0 h1 => by rw [(gr_cx g c2 (163, -1) (by decide) (L := 163) rfl (Or.inl rfl) q1 (by decide))]; exact gr_lab g (q3 i h0 h1) (by decide)⟩)))))
    · exact Or.inr (Or.inr (Or.inr (Or.inr (Or.inr (⟨gr_lab g q1 (by decide), q2, fun i h0 h1 => by rw [(gr_cx g c2 (164, -1) (by decide) (L := 164) rfl (Or.inl rfl) q1 (by decide))]; exact gr_lab g (q3 i h0 h1) (by decide)⟩)))))
  · intro l hl
    have hl := gr_bk g c1 rfl hl
    rw [a0 l a (hl.trans hS.symm) (by rw [hl]; rfl)]
    exact lb
  · intro l hl
    have hl := gr_bk g c1 rfl hl
    rw [(gr_cx g c2 (156, 1) (by decide) (L := 156) (j := 1) rfl (Or.inr rfl) hl (by decide)), (gr_cx g c2 (156, 2) (by decide) (L := 156) (j := 2) rfl (Or.inr rfl) hl (by decide))]
    rcases a3 l hl with q | ⟨q1, q2, q3⟩ | ⟨q1, q2, q3⟩ | ⟨q1, q2, q3⟩
    · exact Or.inl q
    · exact Or.inr (Or.inl (⟨gr_lab g q1 (by decide), q2, fun i h0 h1 => by rw [(gr_cx g c2 (170, -1) (by decide) (L := 170) rfl (Or.inl rfl) q1 (by decide))]; exact gr_lab g (q3 i h0 h1) (by decide)⟩))
    · exact Or.inr (Or.inr (Or.inl (⟨gr_lab g q1 (by decide), q2, fun i h0 h1 => by rw [(gr_cx g c2 (171, -1) (by decide) (L := 171) rfl (Or.inl rfl) q1 (by decide))]; exact gr_lab g (q3 i h0 h1) (by decide)⟩)))
    · exact Or.inr (Or.inr (Or.inr (⟨gr_lab g q1 (by decide), q2, fun i h0 h1 => by rw [(gr_cx g c2 (172, -1) (by decide) (L := 172) rfl (Or.inl rfl) q1 (by decide))]; exact gr_lab g (q3 i h0 h1) (by decide)⟩)))
  · intro l hl
    have hl := gr_bk g c1 rfl hl
    rw [(gr_cx g c2 (157, 1) (by decide) (L := 157) (j := 1) rfl (Or.inr rfl) hl (by decide)), (gr_cx g c2 (157, 2) (by decide) (L := 157) (j := 2) rfl (Or.inr rfl) hl (by decide))]
    rcases a4 l hl with q | ⟨q1, q2, q3⟩ | ⟨q1, q2, q3⟩ | ⟨q1, q2, q3⟩ | ⟨q1, q2, q3⟩ | ⟨q1, q2, q3⟩ | ⟨q1, q2, q3⟩
    · exact Or.inl q
    · exact Or.inr (Or.inl (⟨gr_lab g q1 (by decide), q2, fun i h0 h1 => by rw [(gr_cx g c2 (173, -1) (by decide) (L := 173) rfl (Or.inl rfl) q1 (by decide))]; exact gr_lab g (q3 i h0 h1) (by decide)⟩))
    · exact Or.inr (Or.inr (Or.inl (⟨gr_lab g q1 (by decide), q2, fun i h0 h1 => by rw [(gr_cx g c2 (174, -1) (by decide) (L := 174) rfl (Or.inl rfl) q1 (by decide))]; exact gr_lab g (q3 i h0 h1) (by decide)⟩)))
    · exact Or.inr (Or.inr (Or.inr (Or.inl (⟨gr_lab g q1 (by decide), q2, fun i h0 h1 => by rw [(gr_cx g c2 (175, -1) (by decide) (L := 175) rfl (Or.inl rfl) q1 (by decide))]; exact gr_lab g (q3 i h0 h1) (by decide)⟩))))
    · exact Or.inr (Or.inr (Or.inr (Or.inr (Or.inl (⟨gr_lab g q1 (by decide), q2, fun i h0 h1 => by rw [(gr_cx g c2 (176, -1) (by decide) (L := 176) rfl (Or.inl rfl) q1 (by decide))]; exact gr_lab g (q3 i h0 h1) (by decide)⟩)))))
    · exact Or.inr (Or.inr (Or.inr (Or.inr (Or.inr (Or.inl (⟨gr_lab g q1 (by decide), q2, fun i h0 h1 => by rw [(gr_cx g c2 (177, -1) (by decide) (L := 177) rfl (Or.inl rfl) q1 (by decide))]; exact gr_lab g (q3 i h0 h1) (by decide)⟩))))))
    · exact Or.inr (Or.inr (Or.inr (Or.inr (Or.inr (Or.inr (⟨gr_lab g q1 (by decide), q2, fun i h0 h1 => by rw [(gr_cx g c2 (178, -1) (by decide) (L := 178) rfl (Or.inl rfl) q1 (by decide))]; exact gr_lab g (q3 i h0 h1) (by decide)⟩))))))
  · intro l hl
    have hl := gr_bk g c1 rfl hl
    rw [(gr_cx g c2 (158, 1) (by decide) (L := 158) (j := 1) rfl (Or.inr rfl) hl (by decide)), (gr_cx g c2 (158, 2) (by decide) (L := 158) (j := 2) rfl (Or.inr rfl) hl (by decide))]
    rcases a5 l hl with q | ⟨q1, q2, q3⟩
    · exact Or.inl q
    · exact Or.inr (⟨gr_lab g q1 (by decide), q2, fun i h0 h1 => by rw [(gr_cx g c2 (179, -1) (by decide) (L := 179) rfl (Or.inl rfl) q1 (by decide))]; exact gr_lab g (q3 i h0 h1) (by decide)⟩)
  · intro l hl
    have hl := gr_bk g c1 rfl hl
    rw [(gr_cx g c2 (159, 1) (by decide) (L := 159) (j := 1) rfl (Or.inr rfl) hl (by decide)), (gr_cx g c2 (159, 2) (by decide) (L := 159) (j := 2) rfl (Or.inr rfl) hl (by decide))]
    rcases a6 l hl with q | ⟨q1, q2, q3⟩ | ⟨q1, q2, q3⟩ | ⟨q1, q2, q3⟩ | ⟨q1, q2, q3⟩ | ⟨q1, q2, q3⟩ | ⟨q1, q2, q3⟩
    · exact Or.inl q
    · exact Or.inr (Or.inl (⟨gr_lab g q1 (by decide), q2, fun i h0 h1 => by rw [(gr_cx g c2 (180, -1) (by decide) (L := 180) rfl (Or.inl rfl) q1 (by decide))]; exact gr_lab g (q3 i h0 h1) (by decide)⟩))
    · exact Or.inr (Or.inr (Or.inl (⟨gr_lab g q1 (by decide), q2, fun i h0 h1 => by rw [(gr_cx g c2 (181, -1) (by decide) (L := 181) rfl (Or.inl rfl) q1 (by decide))]; exact gr_lab g (q3 i h0 h1) (by decide)⟩)))
    · exact Or.inr (Or.inr (Or.inr (Or.inl (⟨gr_lab g q1 (by decide), q2, fun i h0 h1 => by rw [(gr_cx g c2 (182, -1) (by decide) (L := 182) rfl (Or.inl rfl) q1 (by decide))]; exact gr_lab g (q3 i h0 h1) (by decide)⟩))))
    · exact Or.inr (Or.inr (Or.inr (Or.inr (Or.inl (⟨gr_lab g q1 (by decide), q2, fun i h0 h1 => by rw [(gr_cx g c2 (183, -1) (by decide) (L := 183) rfl (Or.inl rfl) q1 (by decide))]; exact gr_lab g (q3 i h0 h1) (by decide)⟩)))))
    · exact Or.inr (Or.inr (Or.inr (Or.inr (Or.inr (Or.inl (⟨gr_lab g q1 (by decide), q2, fun i h0 h1 => by rw [(gr_cx g c2 (184, -1) (by decide) (L := 184) rfl (Or.inl rfl) q1 (by decide))]; exact gr_lab g (q3 i h0 h1) (by decide)⟩))))))
    · exact Or.inr (Or.inr (Or.inr (Or.inr (Or.inr (Or.inr (⟨gr_lab g q1 (by decide), q2, fun i h0 h1 => by rw [(gr_cx g c2 (185, -1) (by decide) (L := 185) rfl (Or.inl rfl) q1 (by decide))]; exact gr_lab g (q3 i h0 h1) (by decide)⟩))))))
  · intro t ht i h0 h1 hh
    have ht := gr_bk g c1 rfl ht
    rw [(gr_cx g c2 (136, 3) (by decide) (L := 136) (j := 3) rfl (Or.inr rfl) ht (by decide)), (gr_cx g c2 (120, -1) (by decide) (L := 120) rfl (Or.inl rfl) (tk t ht).1 (by decide))] at hh
    rw [(gr_cx g c2 (136, 5) (by decide) (L := 136) (j := 5) rfl (Or.inr rfl) ht (by decide)), (gr_cx g c2 (121, -1) (by decide) (L := 121) rfl (Or.inl rfl) (tk t ht).2 (by decide))]
    exact a7 t ht i h0 h1 hh
  · intro t u ht hu hh
    have ht := gr_bk g c1 rfl ht
    have hu := gr_bk g c1 rfl hu
    rw [(gr_cx g c2 (136, 3) (by decide) (L := 136) (j := 3) rfl (Or.inr rfl) ht (by decide)), (gr_cx g c2 (136, 3) (by decide) (L := 136) (j := 3) rfl (Or.inr rfl) hu (by decide)), (gr_cx g c2 (136, 5) (by decide) (L := 136) (j := 5) rfl (Or.inr rfl) ht (by decide)), (gr_cx g c2 (136, 5) (by decide) (L := 136) (j := 5) rfl (Or.inr rfl) hu (by decide))] at hh
    exact a8 t u ht hu hh
  · intro p l hp hl
    have hp := gr_bk g c1 rfl hp
    have hl := gr_bk g c1 rfl hl
    rw [(gr_cx g c2 (138, 2) (by decide) (L := 138) (j := 2) rfl (Or.inr rfl) hp (by decide)), (gr_cx g c2 (156, 2) (by decide) (L := 156) (j := 2) rfl (Or.inr rfl) hl (by decide))]
    exact a9 p l hp hl
def cif2 : List (Int × Int) := [(120, -1), (121, -1), (136, 3), (136, 5), (138, 2), (154, 1), (154, 2), (155, 1), (155, 2), (157, 1), (157, 2), (158, 1), (158, 2), (159, 1), (159, 2), (160, -1), (161, -1), (162, -1), (163, -1), (164, -1), (165, -1), (166, -1), (167, -1), (168, -1), (169, -1), (173, -1), (174, -1), (175, -1), (176, -1), (177, -1), (178, -1), (179, -1), (180, -1), (181, -1), (182, -1), (183, -1), (184, -1), (185, -1)]
theorem ci_ad2 (h : CI E S G) (tk : TKP S G) (g : Gr nl ws S G S' G') (c1 : nlk nl = true) (c2 : djx cif2 ws = true) (hS : S a = 156) (lb : LB2 E S' G' a) (hz : G 156 a 2 ≤ G' 156 a 2) : CI E S' G' := by
  obtain ⟨a0, a1, a2, a3, a4, a5, a6, a7, a8, a9⟩ := h
  refine ⟨?_, ?_, ?_, ?_, ?_, ?_, ?_, ?_, ?_, ?_⟩
  · intro a b hab hu
    have ha := gr_bk g c1 (by unfold cil; rw [hu]; rfl) (rfl : S' a = S' a)
    have hb := gr_bk g c1 (by unfold cil; rw [hu]; rfl) hab.symm
    exact a0 a b (ha.trans hb.symm) (by rw [ha]; exact hu)
  · intro l hl
    have hl := gr_bk g c1 rfl hl
    rw [(gr_cx g c2 (154, 1) (by decide) (L := 154) (j := 1) rfl (Or.inr rfl) hl (by decide)), (gr_cx g c2 (154, 2) (by decide) (L := 154) (j := 2) rfl (Or.inr rfl) hl (by decide))]
    rcases a1 l hl with q | ⟨q1, q2, q3⟩ | ⟨q1, q2, q3⟩ | ⟨q1, q2, q3⟩ | ⟨q1, q2, q3⟩ | ⟨q1, q2, q3⟩
    · exact Or.inl q
    · exact Or.inr (Or.inl (⟨gr_lab g q1 (by decide), q2, fun i h0 h1 => by rw [(gr_cx g c2 (160, -1) (by decide) (L := 160) rfl (Or.inl rfl) q1 (by decide))]; exact gr_lab g (q3 i h0 h1) (by decide)⟩))
    · exact Or.inr (Or.inr (Or.inl (⟨gr_lab g q1 (by decide), q2, fun i h0 h1 => by rw [(gr_cx g c2 (161, -1) (by decide) (L := 161) rfl (Or.inl rfl) q1 (by decide))]; exact gr_lab g (q3 i h0 h1) (by decide)⟩)))
    · exact Or.inr (Or.inr (Or.inr (Or.inl (⟨gr_lab g q1 (by decide), q2, fun i h0 h1 => by rw [(gr_cx g c2 (162, -1) (by decide) (L := 162) rfl (Or.inl rfl) q1 (by decide))]; exact gr_lab g (q3 i h0 h1) (by decide)⟩))))
    · exact Or.inr (Or.inr (Or.inr (Or.inr (Or.inl (⟨gr_lab g q1 (by decide), q2, fun i h0 h1 => by rw [(gr_cx g c2 (163, -1) (by decide) (L := 163) rfl (Or.inl rfl) q1 (by decide))]; exact gr_lab g (q3 i h0 h1) (by decide)⟩)))))
    · exact Or.inr (Or.inr (Or.inr (Or.inr (Or.inr (⟨gr_lab g q1 (by decide), q2, fun i h0 h1 => by rw [(gr_cx g c2 (164, -1) (by decide) (L := 164) rfl (Or.inl rfl) q1 (by decide))]; exact gr_lab g (q3 i h0 h1) (by decide)⟩)))))
  · intro l hl
    have hl := gr_bk g c1 rfl hl
    rw [(gr_cx g c2 (155, 1) (by decide) (L := 155) (j := 1) rfl (Or.inr rfl) hl (by decide)), (gr_cx g c2 (155, 2) (by decide) (L := 155) (j := 2) rfl (Or.inr rfl) hl (by decide))]
    rcases a2 l hl with q | ⟨q1, q2, q3⟩ | ⟨q1, q2, q3⟩ | ⟨q1, q2, q3⟩ | ⟨q1, q2, q3⟩ | ⟨q1, q2, q3⟩
    · exact Or.inl q
    · exact Or.inr (Or.inl (⟨gr_lab g q1 (by decide), q2, fun i h0 h1 => by rw [(gr_cx g c2 (165, -1) (by decide) (L := 165) rfl (Or.inl rfl) q1 (by decide))]; exact gr_lab g (q3 i h0 h1) (by decide)⟩))
    · exact Or.inr (Or.inr (Or.inl (⟨gr_lab g q1 (by decide), q2, fun i h0 h1 => by rw [(gr_cx g c2 (166, -1) (by decide) (L := 166) rfl (Or.inl rfl) q1 (by decide))]; exact gr_lab g (q3 i h0 h1) (by decide)⟩)))
    · exact Or.inr (Or.inr (Or.inr (Or.inl (⟨gr_lab g q1 (by decide), q2, fun i h0 h1 => by rw [(gr_cx g c2 (167, -1) (by decide) (L := 167) rfl (Or.inl rfl) q1 (by decide))]; exact gr_lab g (q3 i h0 h1) (by decide)⟩))))
    · exact Or.inr (Or.inr (Or.inr (Or.inr (Or.inl (⟨gr_lab g q1 (by decide), q2, fun i h0 h1 => by rw [(gr_cx g c2 (168, -1) (by decide) (L := 168) rfl (Or.inl rfl) q1 (by decide))]; exact gr_lab g (q3 i h0 h1) (by decide)⟩)))))
    · exact Or.inr (Or.inr (Or.inr (Or.inr (Or.inr (⟨gr_lab g q1 (by decide), q2, fun i h0 h1 => by rw [(gr_cx g c2 (169, -1) (by decide) (L := 169) rfl (Or.inl rfl) q1 (by decide))]; exact gr_lab g (q3 i h0 h1) (by decide)⟩)))))
  · intro l hl
    have hl := gr_bk g c1 rfl hl
    rw [a0 l a (hl.trans hS.symm) (by rw [hl]; rfl)]
    exact lb
  · intro l hl
    have hl := gr_bk g c1 rfl hl
    rw [(gr_cx g c2 (157, 1) (by decide) (L := 157) (j := 1) rfl (Or.inr rfl) hl (by decide)), (gr_cx g c2 (157, 2) (by decide) (L := 157) (j := 2) rfl (Or.inr rfl) hl (by decide))]
    rcases a4 l hl with q | ⟨q1, q2, q3⟩ | ⟨q1, q2, q3⟩ | ⟨q1, q2, q3⟩ | ⟨q1, q2, q3⟩ | ⟨q1, q2, q3⟩ | ⟨q1, q2, q3⟩
    · exact Or.inl q
    · exact Or.inr (Or.inl (⟨gr_lab g q1 (by decide), q2, fun i h0 h1 => by rw [(gr_cx g c2 (173, -1) (by decide) (L := 173) rfl (Or.inl rfl) q1 (by decide))]; exact gr_lab g (q3 i h0 h1) (by decide)⟩))
    · exact Or.inr (Or.inr (Or.inl (⟨gr_lab g q1 (by decide), q2, fun i h0 h1 => by rw [(gr_cx g c2 (174, -1) (by decide) (L := 174) rfl (Or.inl rfl) q1 (by decide))]; exact gr_lab g (q3 i h0 h1) (by decide)⟩)))
    · exact Or.inr (Or.inr (Or.inr (Or.inl (⟨gr_lab g q1 (by decide), q2, fun i h0 h1 => by rw [(gr_cx g c2 (175, -1) (by decide) (L := 175) rfl (Or.inl rfl) q1 (by decide))]; exact gr_lab g (q3 i h0 h1) (by decide)⟩))))
    · exact Or.inr (Or.inr (Or.inr (Or.inr (Or.inl (⟨gr_lab g q1 (by decide), q2, fun i h0 h1 => by rw [(gr_cx g c2 (176, -1) (by decide) (L := 176) rfl (Or.inl rfl) q1 (by decide))]; exact gr_lab g (q3 i h0 h1) (by decide)⟩)))))
    · exact Or.inr (Or.inr (Or.inr (Or.inr (Or.inr (Or.inl (⟨gr_lab g q1 (by decide), q2, fun i h0 h1 => by rw [(gr_cx g c2 (177, -1) (by decide) (L := 177) rfl (Or.inl rfl) q1 (by decide))]; exact gr_lab g (q3 i h0 h1) (by decide)⟩))))))
    · exact Or.inr (Or.inr (Or.inr (Or.inr (Or.inr (Or.inr (⟨gr_lab g q1 (by decide), q2, fun i h0 h1 => by rw [(gr_cx g c2 (178, -1) (by decide) (L := 178) rfl (Or.inl rfl) q1 (by decide))]; exact gr_lab g (q3 i h0 h1) (by decide)⟩))))))
  · intro l hl
    have hl := gr_bk g c1 rfl hl
    rw [(gr_cx g c2 (158, 1) (by decide) (L := 158) (j := 1) rfl (Or.inr rfl) hl (by decide)), (gr_cx g c2 (158, 2) (by decide) (L := 158) (j := 2) rfl (Or.inr rfl) hl (by decide))]
    rcases a5 l hl with q | ⟨q1, q2, q3⟩
    · exact Or.inl q
    · exact Or.inr (⟨gr_lab g q1 (by decide), q2, fun i h0 h1 => by rw [(gr_cx g c2 (179, -1) (by decide) (L := 179) rfl (Or.inl rfl) q1 (by decide))]; exact gr_lab g (q3 i h0 h1) (by decide)⟩)
  · intro l hl
    have hl := gr_bk g c1 rfl hl
    rw [(gr_cx g c2 (159, 1) (by decide) (L := 159) (j := 1) rfl (Or.inr rfl) hl (by decide)), (gr_cx g c2 (159, 2) (by decide) (L := 159) (j := 2) rfl (Or.inr rfl) hl (by decide))]
    rcases a6 l hl with q | ⟨q1, q2, q3⟩ | ⟨q1, q2, q3⟩ | ⟨q1, q2, q3⟩ | ⟨q1, q2, q3⟩ | ⟨q1, q2, q3⟩ | ⟨q1, q2, q3⟩
    · exact Or.inl q
    · exact Or.inr (Or.inl (⟨gr_lab g q1 (by decide), q2, fun i h0 h1 => by rw [(gr_cx g c2 (180, -1) (by decide) (L := 180) rfl (Or.inl rfl) q1 (by decide))]; exact gr_lab g (q3 i h0 h1) (by decide)⟩))
    · exact Or.inr (Or.inr (Or.inl (⟨gr_lab g q1 (by decide), q2, fun i h0 h1 => by rw [(gr_cx g c2 (181, -1) (by decide) (L := 181) rfl (Or.inl rfl) q1 (by decide))]; exact gr_lab g (q3 i h0 h1) (by decide)⟩)))
    · exact Or.inr (Or.inr (Or.inr (Or.inl (⟨gr_lab g q1 (by decide), q2, fun i h0 h1 => by rw [(gr_cx g c2 (182, -1) (by decide) (L := 182) rfl (Or.inl rfl) q1 (by decide))]; exact gr_lab g (q3 i h0 h1) (by decide)⟩))))
    · exact Or.inr (Or.inr (Or.inr (Or.inr (Or.inl (⟨gr_lab g q1 (by decide), q2, fun i h0 h1 => by rw [(gr_cx g c2 (183, -1) (by decide) (L := 183) rfl (Or.inl rfl) q1 (by decide))]; exact gr_lab g (q3 i h0 h1) (by decide)⟩)))))
    · exact Or.inr (Or.inr (Or.inr (Or.inr (Or.inr (Or.inl (⟨gr_lab g q1 (by decide), q2, fun i h0 h1 => by rw [(gr_cx g c2 (184, -1) (by decide) (L := 184) rfl (Or.inl rfl) q1 (by decide))]; exact gr_lab g (q3 i h0 h1) (by decide)⟩))))))
    · exact Or.inr (Or.inr (Or.inr (Or.inr (Or.inr (Or.inr (⟨gr_lab g q1 (by decide), q2, fun i h0 h1 => by rw [(gr_cx g c2 (185, -1) (by decide) (L := 185) rfl (Or.inl rfl) q1 (by decide))]; exact gr_lab g (q3 i h0 h1) (by decide)⟩))))))
  · intro t ht i h0 h1 hh
    have ht := gr_bk g c1 rfl ht
    rw [(gr_cx g c2 (136, 3) (by decide) (L := 136) (j := 3) rfl (Or.inr rfl) ht (by decide)), (gr_cx g c2 (120, -1) (by decide) (L := 120) rfl (Or.inl rfl) (tk t ht).1 (by decide))] at hh
    rw [(gr_cx g c2 (136, 5) (by decide) (L := 136) (j := 5) rfl (Or.inr rfl) ht (by decide)), (gr_cx g c2 (121, -1) (by decide) (L := 121) rfl (Or.inl rfl) (tk t ht).2 (by decide))]
    exact a7 t ht i h0 h1 hh
  · intro t u ht hu hh
    have ht := gr_bk g c1 rfl ht
    have hu := gr_bk g c1 rfl hu
    rw [(gr_cx g c2 (136, 3) (by decide) (L := 136) (j := 3) rfl (Or.inr rfl) ht (by decide)), (gr_cx g c2 (136, 3) (by decide) (L := 136) (j := 3) rfl (Or.inr rfl) hu (by decide)), (gr_cx g c2 (136, 5) (by decide) (L := 136) (j := 5) rfl (Or.inr rfl) ht (by decide)), (gr_cx g c2 (136, 5) (by decide) (L := 136) (j := 5) rfl (Or.inr rfl) hu (by decide))] at hh
    exact a8 t u ht hu hh
  · intro p l hp hl
    have hp := gr_bk g c1 rfl hp
    have hl := gr_bk g c1 rfl hl
    rw [(gr_cx g c2 (138, 2) (by decide) (L := 138) (j := 2) rfl (Or.inr rfl) hp (by decide))]
    have e := a0 l a (hl.trans hS.symm) (by rw [hl]; rfl)
    rw [e]
    have q := a9 p a hp hS
    omega
def cif3 : List (Int × Int) := [(120, -1), (121, -1), (136, 3), (136, 5), (138, 2), (154, 1), (154, 2), (155, 1), (155, 2), (156, 1), (156, 2), (158, 1), (158, 2), (159, 1), (159, 2), (160, -1), (161, -1), (162, -1), (163, -1), (164, -1), (165, -1), (166, -1), (167, -1), (168, -1), (169, -1), (170, -1), (171, -1), (172, -1), (179, -1), (180, -1), (181, -1), (182, -1), (183, -1), (184, -1), (185, -1)]
theorem ci_ad3 (h : CI E S G) (tk : TKP S G) (g : Gr nl ws S G S' G') (c1 : nlk nl = true) (c2 : djx cif3 ws = true) (hS : S a = 157) (lb : LB3 E S' G' a) (hz : G 157 a 2 ≤ G' 157 a 2) : CI E S' G' := by
  obtain ⟨a0, a1, a2, a3, a4, a5, a6, a7, a8, a9⟩ := h
  refine ⟨?_, ?_, ?_, ?_, ?_, ?_, ?_, ?_, ?_, ?_⟩
  · intro a b hab hu
    have ha := gr_bk g c1 (by unfold cil; rw [hu]; rfl) (rfl : S' a = S' a)
    have hb := gr_bk g c1 (by unfold cil; rw [hu]; rfl) hab.symm
    exact a0 a b (ha.trans hb.symm) (by rw [ha]; exact hu)
  · intro l hl
    have hl := gr_bk g c1 rfl hl
    rw [(gr_cx g c2 (154, 1) (by decide) (L := 154) (j := 1) rfl (Or.inr rfl) hl (by decide)), (gr_cx g c2 (154, 2) (by decide) (L := 154) (j := 2) rfl (Or.inr rfl) hl (by decide))]
    rcases a1 l hl with q | ⟨q1, q2, q3⟩ | ⟨q1, q2, q3⟩ | ⟨q1, q2, q3⟩ | ⟨q1, q2, q3⟩ | ⟨q1, q2, q3⟩
    · exact Or.inl q
    · exact Or.inr (Or.inl (⟨gr_lab g q1 (by decide), q2, fun i h0 h1 => by rw [(gr_cx g c2 (160, -1) (by decide) (L := 160) rfl (Or.inl rfl) q1 (by decide))]; exact gr_lab g (q3 i h0 h1) (by decide)⟩))
    · exact Or.inr (Or.inr (Or.inl (⟨gr_lab g q1 (by decide), q2, fun i h0 h1 => by rw [(gr_cx g c2 (161, -1) (by decide) (L := 161) rfl (Or.inl rfl) q1 (by decide))]; exact gr_lab g (q3 i h0 h1) (by decide)⟩)))
    · exact Or.inr (Or.inr (Or.inr (Or.inl (⟨gr_lab g q1 (by decide), q2, fun i h0 h1 => by rw [(gr_cx g c2 (162, -1) (by decide) (L := 162) rfl (Or.inl rfl) q1 (by decide))]; exact gr_lab g (q3 i h0 h1) (by decide)⟩))))
    · exact Or.inr (Or.inr (Or.inr (Or.inr (Or.inl (⟨gr_lab g q1 (by decide), q2, fun i h0 h1 => by rw [(gr_cx g c2 (163, -1) (by decide) (L := 163) rfl (Or.inl rfl) q1 (by decide))]; exact gr_lab g (q3 i h0 h1) (by decide)⟩)))))
    · exact Or.inr (Or.inr (Or.inr (Or.inr (Or.inr (⟨gr_lab g q1 (by decide), q2, fun i h0 h1 => by rw [(gr_cx g c2 (164, -1) (by decide) (L := 164) rfl (Or.inl rfl) q1 (by decide))]; exact gr_lab g (q3 i h0 h1) (by decide)⟩)))))
  · intro l hl
    have hl := gr_bk g c1 rfl hl
    rw [(gr_cx g c2 (155, 1) (by decide) (L := 155) (j := 1) rfl (Or.inr rfl) hl (by decide)), (gr_cx g c2 (155, 2) (by decide) (L := 155) (j := 2) rfl (Or.inr rfl) hl (by decide))]
    rcases a2 l hl with q | ⟨q1, q2, q3⟩ | ⟨q1, q2, q3⟩ | ⟨q1, q2, q3⟩ | ⟨q1, q2, q3⟩ | ⟨q1, q2, q3⟩
    · exact Or.inl q
    · exact Or.inr (Or.inl (⟨gr_lab g q1 (by decide), q2, fun i h0 h1 => by rw [(gr_cx g c2 (165, -1) (by decide) (L := 165) rfl (Or.inl rfl) q1 (by decide))]; exact gr_lab g (q3 i h0 h1) (by decide)⟩))
    · exact Or.inr (Or.inr (Or.inl (⟨gr_lab g q1 (by decide), q2, fun i h0 h1 => by rw [(gr_cx g c2 (166, -1) (by decide) (L := 166) rfl (Or.inl rfl) q1 (by decide))]; exact gr_lab g (q3 i h0 h1) (by decide)⟩)))
    · exact Or.inr (Or.inr (Or.inr (Or.inl (⟨gr_lab g q1 (by decide), q2, fun i h0 h1 => by rw [(gr_cx g c2 (167, -1) (by decide) (L := 167) rfl (Or.inl rfl) q1 (by decide))]; exact gr_lab g (q3 i h0 h1) (by decide)⟩))))
    · exact Or.inr (Or.inr (Or.inr (Or.inr (Or.inl (⟨gr_lab g q1 (by decide), q2, fun i h0 h1 => by rw [(gr_cx g c2 (168, -1) (by decide) (L := 168) rfl (Or.inl rfl) q1 (by decide))]; exact gr_lab g (q3 i h0 h1) (by decide)⟩)))))
    · exact Or.inr (Or.inr (Or.inr (Or.inr (Or.inr (⟨gr_lab g q1 (by decide), q2, fun i h0 h1 => by rw [(gr_cx g c2 (169, -1) (by decide) (L := 169) rfl (Or.inl rfl) q1 (by decide))]; exact gr_lab g (q3 i h0 h1) (by decide)⟩)))))
  · intro l hl
    have hl := gr_bk g c1 rfl hl
    rw [(gr_cx g c2 (156, 1) (by decide) (L := 156) (j := 1) rfl (Or.inr rfl) hl (by decide)), (gr_cx g c2 (156, 2) (by decide) (L := 156) (j := 2) rfl (Or.inr rfl) hl (by decide))]
    rcases a3 l hl with q | ⟨q1, q2, q3⟩ | ⟨q1, q2, q3⟩ | ⟨q1, q2, q3⟩
    · exact Or.inl q
    · exact Or.inr (Or.inl (⟨gr_lab g q1 (by decide), q2, fun i h0 h1 => by rw [(gr_cx g c2 (170, -1) (by decide) (L := 170) rfl (Or.inl rfl) q1 (by decide))]; exact gr_lab g (q3 i h0 h1) (by decide)⟩))
    · exact Or.inr (Or.inr (Or.inl (⟨gr_lab g q1 (by decide), q2, fun i h0 h1 => by rw [(gr_cx g c2 (171, -1) (by decide) (L := 171) rfl (Or.inl rfl) q1 (by decide))]; exact gr_lab g (q3 i h0 h1) (by decide)⟩)))
    · exact Or.inr (Or.inr (Or.inr (⟨gr_lab g q1 (by decide), q2, fun i h0 h1 => by rw [(gr_cx g c2 (172, -1) (by decide) (L := 172) rfl (Or.inl rfl) q1 (by decide))]; exact gr_lab g (q3 i h0 h1) (by decide)⟩)))
  · intro l hl
    have hl := gr_bk g c1 rfl hl
    rw [a0 l a (hl.trans hS.symm) (by rw [hl]; rfl)]
    exact lb
  · intro l hl
    have hl := gr_bk g c1 rfl hl
    rw [(gr_cx g c2 (158, 1) (by decide) (L := 158) (j := 1) rfl (Or.inr rfl) hl (by decide)), (gr_cx g c2 (158, 2) (by decide) (L := 158) (j := 2) rfl (Or.inr rfl) hl (by decide))]
    rcases a5 l hl with q | ⟨q1, q2, q3⟩
    · exact Or.inl q
    · exact Or.inr (⟨gr_lab g q1 (by decide), q2, fun i h0 h1 => by rw [(gr_cx g c2 (179, -1) (by decide) (L := 179) rfl (Or.inl rfl) q1 (by decide))]; exact gr_lab g (q3 i h0 h1) (by decide)⟩)
  · intro l hl
    have hl := gr_bk g c1 rfl hl
    rw [(gr_cx g c2 (159, 1) (by decide) (L := 159) (j := 1) rfl (Or.inr rfl) hl (by decide)), (gr_cx g c2 (159, 2) (by decide) (L := 159) (j := 2) rfl (Or.inr rfl) hl (by decide))]
    rcases a6 l hl with q | ⟨q1, q2, q3⟩ | ⟨q1, q2, q3⟩ | ⟨q1, q2, q3⟩ | ⟨q1, q2, q3⟩ | ⟨q1, q2, q3⟩ | ⟨q1, q2, q3⟩
    · exact Or.inl q
    · exact Or.inr (Or.inl (⟨gr_lab g q1 (by decide), q2, fun i h0 h1 => by rw [(gr_cx g c2 (180, -1) (by decide) (L := 180) rfl (Or.inl rfl) q1 (by decide))]; exact gr_lab g (q3 i h0 h1) (by decide)⟩))
    · exact Or.inr (Or.inr (Or.inl (⟨gr_lab g q1 (by decide), q2, fun i h0 h1 => by rw [(gr_cx g c2 (181, -1) (by decide) (L := 181) rfl (Or.inl rfl) q1 (by decide))]; exact gr_lab g (q3 i h0 h1) (by decide)⟩)))
    · exact Or.inr (Or.inr (Or.inr (Or.inl (⟨gr_lab g q1 (by decide), q2, fun i h0 h1 => by rw [(gr_cx g c2 (182, -1) (by decide) (L := 182) rfl (Or.inl rfl) q1 (by decide))]; exact gr_lab g (q3 i h0 h1) (by decide)⟩))))
    · exact Or.inr (Or.inr (Or.inr (Or.inr (Or.inl (⟨gr_lab g q1 (by decide), q2, fun i h0 h1 => by rw [(gr_cx g c2 (183, -1) (by decide) (L := 183) rfl (Or.inl rfl) q1 (by decide))]; exact gr_lab g (q3 i h0 h1) (by decide)⟩)))))
    · exact Or.inr (Or.inr (Or.inr (Or.inr (Or.inr (Or.inl (⟨gr_lab g q1 (by decide), q2, fun i h0 h1 => by rw [(gr_cx g c2 (184, -1) (by decide) (L := 184) rfl (Or.inl rfl) q1 (by decide))]; exact gr_lab g (q3 i h0 h1) (by decide)⟩))))))
    · exact Or.inr (Or.inr (Or.inr (Or.inr (Or.inr (Or.inr (⟨gr_lab g q1 (by decide), q2, fun i h0 h1 => by rw [(gr_cx g c2 (185, -1) (by decide) (L := 185) rfl (Or.inl rfl) q1 (by decide))]; exact gr_lab g (q3 i h0 h1) (by decide)⟩))))))
  · intro t ht i h0 h1 hh
    have ht := gr_bk g c1 rfl ht
    rw [(gr_cx g c2 (136, 3) (by decide) (L := 136) (j := 3) rfl (Or.inr rfl) ht (by decide)), (gr_cx g c2 (120, -1) (by decide) (L := 120) rfl (Or.inl rfl) (tk t ht).1 (by decide))] at hh
    rw [(gr_cx g c2 (136, 5) (by decide) (L := 136) (j := 5) rfl (Or.inr rfl) ht (by decide)), (gr_cx g c2 (121, -1) (by decide) (L := 121) rfl (Or.inl rfl) (tk t ht).2 (by decide))]
    exact a7 t ht i h0 h1 hh
  · intro t u ht hu hh
    have ht := gr_bk g c1 rfl ht
    have hu := gr_bk g c1 rfl hu
    rw [(gr_cx g c2 (136, 3) (by decide) (L := 136) (j := 3) rfl (Or.inr rfl) ht (by decide)), (gr_cx g c2 (136, 3) (by decide) (L := 136) (j := 3) rfl (Or.inr rfl) hu (by decide)), (gr_cx g c2 (136, 5) (by decide) (L := 136) (j := 5) rfl (Or.inr rfl) ht (by decide)), (gr_cx g c2 (136, 5) (by decide) (L := 136) (j := 5) rfl (Or.inr rfl) hu (by decide))] at hh
    exact a8 t u ht hu hh
  · intro p l hp hl
    have hp := gr_bk g c1 rfl hp
    have hl := gr_bk g c1 rfl hl
    rw [(gr_cx g c2 (138, 2) (by decide) (L := 138) (j := 2) rfl (Or.inr rfl) hp (by decide)), (gr_cx g c2 (156, 2) (by decide) (L := 156) (j := 2) rfl (Or.inr rfl) hl (by decide))]
    exact a9 p l hp hl
def cif4 : List (Int × Int) := [(120, -1), (121, -1), (136, 3), (136, 5), (138, 2), (154, 1), (154, 2), (155, 1), (155, 2), (156, 1), (156, 2), (157, 1), (157, 2), (159, 1), (159, 2), (160, -1), (161, -1), (162, -1), (163, -1), (164, -1), (165, -1), (166, -1), (167, -1), (168, -1), (169, -1), (170, -1), (171, -1), (172, -1), (173, -1), (174, -1), (175, -1), (176, -1), (177, -1), (178, -1), (180, -1), (181, -1), (182, -1), (183, -1), (184, -1), (185, -1)]
theorem ci_ad4 (h : CI E S G) (tk : TKP S G) (g : Gr nl ws S G S' G') (c1 : nlk nl = true) (c2 : djx cif4 ws = true) (hS : S a = 158) (lb : LB4 E S' G' a) (hz : G 158 a 2 ≤ G' 158 a 2) : CI E S' G' := by
  obtain ⟨a0, a1, a2, a3, a4, a5, a6, a7, a8, a9⟩ := h
  refine ⟨?_, ?_, ?_, ?_, ?_, ?_, ?_, ?_, ?_, ?_⟩
  · intro a b hab hu
    have ha := gr_bk g c1 (by unfold cil; rw [hu]; rfl) (rfl : S' a = S' a)
    have hb := gr_bk g c1 (by unfold cil; rw [hu]; rfl) hab.symm
    exact a0 a b (ha.trans hb.symm) (by rw [ha]; exact hu)
  · intro l hl
    have hl := gr_bk g c1 rfl hl
    rw [(gr_cx g c2 (154, 1) (by decide) (L := 154) (j := 1) rfl (Or.inr rfl) hl (by decide)), (gr_cx g c2 (154, 2) (by decide) (L := 154) (j := 2) rfl (Or.inr rfl) hl (by decide))]
    rcases a1 l hl with q | ⟨q1, q2, q3⟩ | ⟨q1, q2, q3⟩ | ⟨q1, q2, q3⟩ | ⟨q1, q2, q3⟩ | ⟨q1, q2, q3⟩
    · exact Or.inl q
    · exact Or.inr (Or.inl (⟨gr_lab g q1 (by decide), q2, fun i h0 h1 => by rw [(gr_cx g c2 (160, -1) (by decide) (L := 160) rfl (Or.inl rfl) q1 (by decide))]; exact gr_lab g (q3 i h0 h1) (by decide)⟩))
    · exact Or.inr (Or.inr (Or.inl (⟨gr_lab g q1 (by decide), q2, fun i h0 h1 => by rw [(gr_cx g c2 (161, -1) (by decide) (L := 161) rfl (Or.inl rfl) q1 (by decide))]; exact gr_lab g (q3 i h0 h1) (by decide)⟩)))
    · exact Or.inr (Or.inr (Or.inr (Or.inl (⟨gr_lab g q1 (by decide), q2, fun i h0 h1 => by rw [(gr_cx g c2 (162, -1) (by decide) (L := 162) rfl (Or.inl rfl) q1 (by decide))]; exact gr_lab g (q3 i h0 h1) (by decide)⟩))))
    · exact Or.inr (Or.inr (Or.inr (Or.inr (Or.inl (⟨gr_lab g q1 (by decide), q2, fun i h0 h1 => by rw [(gr_cx g c2 (163, -1) (by decide) (L := 163) rfl (Or.inl rfl) q1 (by decide))]; exact gr_lab g (q3 i h0 h1) (by decide)⟩)))))
    · exact Or.inr (Or.inr (Or.inr (Or.inr (Or.inr (⟨gr_lab g q1 (by decide), q2, fun i h0 h1 => by rw [(gr_cx g c2 (164, -1) (by decide) (L := 164) rfl (Or.inl rfl) q1 (by decide))]; exact gr_lab g (q3 i h0 h1) (by decide)⟩)))))
  · intro l hl
    have hl := gr_bk g c1 rfl hl
    rw [(gr_cx g c2 (155, 1) (by decide) (L := 155) (j := 1) rfl (Or.inr rfl) hl (by decide)), (gr_cx g c2 (155, 2) (by decide) (L := 155) (j := 2) rfl (Or.inr rfl) hl (by decide))]
    rcases a2 l hl with q | ⟨q1, q2, q3⟩ | ⟨q1, q2, q3⟩ | ⟨q1, q2, q3⟩ | ⟨q1, q2, q3⟩ | ⟨q1, q2, q3⟩
    · exact Or.inl q
    · exact Or.inr (Or.inl (⟨gr_lab g q1 (by decide), q2, fun i h0 h1 => by rw [(gr_cx g c2 (165, -1) (by decide) (L := 165) rfl (Or.inl rfl) q1 (by decide))]; exact gr_lab g (q3 i h0 h1) (by decide)⟩))
    · exact Or.inr (Or.inr (Or.inl (⟨gr_lab g q1 (by decide), q2, fun i h0 h1 => by rw [(gr_cx g c2 (166, -1) (by decide) (L := 166) rfl (Or.inl rfl) q1 (by decide))]; exact gr_lab g (q3 i h0 h1) (by decide)⟩)))
    · exact Or.inr (Or.inr (Or.inr (Or.inl (⟨gr_lab g q1 (by decide), q2, fun i h0 h1 => by rw [(gr_cx g c2 (167, -1) (by decide) (L := 167) rfl (Or.inl rfl) q1 (by decide))]; exact gr_lab g (q3 i h0 h1) (by decide)⟩))))
    · exact Or.inr (Or.inr (Or.inr (Or.inr (Or.inl (⟨gr_lab g q1 (by decide), q2, fun i h0 h1 => by rw [(gr_cx g c2 (168, -1) (by decide) (L := 168) rfl (Or.inl rfl) q1 (by decide))]; exact gr_lab g (q3 i h0 h1) (by decide)⟩)))))
    · exact Or.inr (Or.inr (Or.inr (Or.inr (Or.inr (⟨gr_lab g q1 (by decide), q2, fun i h0 h1 => by rw [(gr_cx g c2 (169, -1) (by decide) (L := 169) rfl (Or.inl rfl) q1 (by decide))]; exact gr_lab g (q3 i h0 h1) (by decide)⟩)))))
  · intro l hl
    have hl := gr_bk g c1 rfl hl
    rw [(gr_cx g c2 (156, 1) (by decide) (L := 156) (j := 1) rfl (Or.inr rfl) hl (by decide)), (gr_cx g c2 (156, 2) (by decide) (L := 156) (j := 2) rfl (Or.inr rfl) hl (by decide))]
    rcases a3 l hl with q | ⟨q1, q2, q3⟩ | ⟨q1, q2, q3⟩ | ⟨q1, q2, q3⟩
    · exact Or.inl q
    · exact Or.inr (Or.inl (⟨gr_lab g q1 (by decide), q2, fun i h0 h1 => by rw [(gr_cx g c2 (170, -1) (by decide) (L := 170) rfl (Or.inl rfl) q1 (by decide))]; exact gr_lab g (q3 i h0 h1) (by decide)⟩))
    · exact Or.inr (Or.inr (Or.inl (⟨gr_lab g q1 (by decide), q2, fun i h0 h1 => by rw [(gr_cx g c2 (171, -1) (by decide) (L := 171) rfl (Or.inl rfl) q1 (by decide))]; exact gr_lab g (q3 i h0 h1) (by decide)⟩)))
    · exact Or.inr (Or.inr (Or.inr (⟨gr_lab g q1 (by decide), q2, fun i h0 h1 => by rw [(gr_cx g c2 (172, -1) (by decide) (L := 172) rfl (Or.inl rfl) q1 (by decide))]; exact gr_lab g (q3 i h0 h1) (by decide)⟩)))
  · intro l hl
    have hl := gr_bk g c1 rfl hl
    rw [(gr_cx g c2 (157, 1) (by decide) (L := 157) (j := 1) rfl (Or.inr rfl) hl (by decide)), (gr_cx g c2 (157, 2) (by decide) (L := 157) (j := 2) rfl (Or.inr rfl) hl (by decide))]
    rcases a4 l hl with q | ⟨q1, q2, q3⟩ | ⟨q1, q2, q3⟩ | ⟨q1, q2, q3⟩ | ⟨q1, q2, q3⟩ | ⟨q1, q2, q3⟩ | ⟨q1, q2, q3⟩
    · exact Or.inl q
    · exact Or.inr (Or.inl (⟨gr_lab g q1 (by decide), q2, fun i h0 h1 => by rw [(gr_cx g c2 (173, -1) (by decide) (L := 173) rfl (Or.inl rfl) q1 (by decide))]; exact gr_lab g (q3 i h0 h1) (by decide)⟩))
    · exact Or.inr (Or.inr (Or.inl (⟨gr_lab g q1 (by decide), q2, fun i h0 h1 => by rw [(gr_cx g c2 (174, -1) (by decide) (L := 174) rfl (Or.inl rfl) q1 (by decide))]; exact gr_lab g (q3 i h0 h1) (by decide)⟩)))
    · exact Or.inr (Or.inr (Or.inr (Or.inl (⟨gr_lab g q1 (by decide), q2, fun i h0 h1 => by rw [(gr_cx g c2 (175, -1) (by decide) (L := 175) rfl (Or.inl rfl) q1 (by decide))]; exact gr_lab g (q3 i h0 h1) (by decide)⟩))))
    · exact Or.inr (Or.inr (Or.inr (Or.inr (Or.inl (⟨gr_lab g q1 (by decide), q2, fun i h0 h1 => by rw [(gr_cx g c2 (176, -1) (by decide) (L := 176) rfl (Or.inl rfl) q1 (by decide))]; exact gr_lab g (q3 i h0 h1) (by decide)⟩)))))
    · exact Or.inr (Or.inr (Or.inr (Or.inr (Or.inr (Or.inl (⟨gr_lab g q1 (by decide), q2, fun i h0 h1 => by rw [(gr_cx g c2 (177, -1) (by decide) (L := 177) rfl (Or.inl rfl) q1 (by decide))]; exact gr_lab g (q3 i h0 h1) (by decide)⟩))))))
    · exact Or.inr (Or.inr (Or.inr (Or.inr (Or.inr (Or.inr (⟨gr_lab g q1 (by decide), q2, fun i h0 h1 => by rw [(gr_cx g c2 (178, -1) (by decide) (L := 178) rfl (Or.inl rfl) q1 (by decide))]; exact gr_lab g (q3 i h0 h1) (by decide)⟩))))))
  · intro l hl
    have hl := gr_bk g c1 rfl hl
    rw [a0 l a (hl.trans hS.symm) (by rw [hl]; rfl)]
    exact lb
  · intro l hl
    have hl := gr_bk g c1 rfl hl
    rw [(gr_cx g c2 (159, 1) (by decide) (L := 159) (j := 1) rfl (Or.inr rfl) hl (by decide)), (gr_cx g c2 (159, 2) (by decide) (L := 159) (j := 2) rfl (Or.inr rfl) hl (by decide))]
    rcases a6 l hl with q | ⟨q1, q2, q3⟩ | ⟨q1, q2, q3⟩ | ⟨q1, q2, q3⟩ | ⟨q1, q2, q3⟩ | ⟨q1, q2, q3⟩ | ⟨q1, q2, q3⟩
    · exact Or.inl q
    · exact Or.inr (Or.inl (⟨gr_lab g q1 (by decide), q2, fun i h0 h1 => by rw [(gr_cx g c2 (180, -1) (by decide) (L := 180) rfl (Or.inl rfl) q1 (by decide))]; exact gr_lab g (q3 i h0 h1) (by decide)⟩))
    · exact Or.inr (Or.inr (Or.inl (⟨gr_lab g q1 (by decide), q2, fun i h0 h1 => by rw [(gr_cx g c2 (181, -1) (by decide) (L := 181) rfl (Or.inl rfl) q1 (by decide))]; exact gr_lab g (q3 i h0 h1) (by decide)⟩)))
    · exact Or.inr (Or.inr (Or.inr (Or.inl (⟨gr_lab g q1 (by decide), q2, fun i h0 h1 => by rw [(gr_cx g c2 (182, -1) (by decide) (L := 182) rfl (Or.inl rfl) q1 (by decide))]; exact gr_lab g (q3 i h0 h1) (by decide)⟩))))
    · exact Or.inr (Or.inr (Or.inr (Or.inr (Or.inl (⟨gr_lab g q1 (by decide), q2, fun i h0 h1 => by rw [(gr_cx g c2 (183, -1) (by decide) (L := 183) rfl (Or.inl rfl) q1 (by decide))]; exact gr_lab g (q3 i h0 h1) (by decide)⟩)))))
    · exact Or.inr (Or.inr (Or.inr (Or.inr (Or.inr (Or.inl (⟨gr_lab g q1 (by decide), q2, fun i h0 h1 => by rw [(gr_cx g c2 (184, -1) (by decide) (L := 184) rfl (Or.inl rfl) q1 (by decide))]; exact gr_lab g (q3 i h0 h1) (by decide)⟩))))))
    · exact Or.inr (Or.inr (Or.inr (Or.inr (Or.inr (Or.inr (⟨gr_lab g q1 (by decide), q2, fun i h0 h1 => by rw [(gr_cx g c2 (185, -1) (by decide) (L := 185) rfl (Or.inl rfl) q1 (by decide))]; exact gr_lab g (q3 i h0 h1) (by decide)⟩))))))
  · intro t ht i h0 h1 hh
    have ht := gr_bk g c1 rfl ht
    rw [(gr_cx g c2 (136, 3) (by decide) (L := 136) (j := 3) rfl (Or.inr rfl) ht (by decide)), (gr_cx g c2 (120, -1) (by decide) (L := 120) rfl (Or.inl rfl) (tk t ht).1 (by decide))] at hh
    rw [(gr_cx g c2 (136, 5) (by decide) (L := 136) (j := 5) rfl (Or.inr rfl) ht (by decide)), (gr_cx g c2 (121, -1) (by decide) (L := 121) rfl (Or.inl rfl) (tk t ht).2 (by decide))]
    exact a7 t ht i h0 h1 hh
  · intro t u ht hu hh
    have ht := gr_bk g c1 rfl ht
    have hu := gr_bk g c1 rfl hu
    rw [(gr_cx g c2 (136, 3) (by decide) (L := 136) (j := 3) rfl (Or.inr rfl) ht (by decide)), (gr_cx g c2 (136, 3) (by decide) (L := 136) (j := 3) rfl (Or.inr rfl) hu (by decide)), (gr_cx g c2 (136, 5) (by decide) (L := 136) (j := 5) rfl (Or.inr rfl) ht (by decide)), (gr_cx g c2 (136, 5) (by decide) (L := 136) (j := 5) rfl (Or.inr rfl) hu (by decide))] at hh
    exact a8 t u ht hu hh
  · intro p l hp hl
    have hp := gr_bk g c1 rfl hp
    have hl := gr_bk g c1 rfl hl
    rw [(gr_cx g c2 (138, 2) (by decide) (L := 138) (j := 2) rfl (Or.inr rfl) hp (by decide)), (gr_cx g c2 (156, 2) (by decide) (L := 156) (j := 2) rfl (Or.inr rfl) hl (by decide))]
    exact a9 p l hp hl
def cif5 : List (Int × Int) := [(120, -1), (121, -1), (136, 3), (136, 5), (138, 2), (154, 1), (154, 2), (155, 1), (155, 2), (156, 1), (156, 2), (157, 1), (157, 2), (158, 1), (158, 2), (160, -1), (161, -1), (162, -1), (163, -1), (164, -1), (165, -1), (166, -1), (167, -1), (168, -1), (169, -1), (170, -1), (171, -1), (172, -1), (173, -1), (174, -1), (175, -1), (176, -1), (177, -1), (178, -1), (179, -1)]
theorem ci_ad5 (h : CI E S G) (tk : TKP S G) (g : Gr nl ws S G S' G') (c1 : nlk nl = true) (c2 : djx cif5 ws = true) (hS : S a = 159) (lb : LB5 E S' G' a) (hz : G 159 a 2 ≤ G' 159 a 2) : CI E S' G' := by
  obtain ⟨a0, a1, a2, a3, a4, a5, a6, a7, a8, a9⟩ := h
  refine ⟨?_, ?_, ?_, ?_, ?_, ?_, ?_, ?_, ?_, ?_⟩
  · intro a b hab hu
    have ha := gr_bk g c1 (by unfold cil; rw [hu]; rfl) (rfl : S' a = S' a)
    have hb := gr_bk g c1 (by unfold cil; rw [hu]; rfl) hab.symm
    exact a0 a b (ha.trans hb.symm) (by rw [ha]; exact hu)
  · intro l hl
    have hl := gr_bk g c1 rfl hl
    rw [(gr_cx g c2 (154, 1) (by decide) (L := 154) (j := 1) rfl (Or.inr rfl) hl (by decide)), (gr_cx g c2 (154, 2) (by decide) (L := 154) (j := 2) rfl (Or.inr rfl) hl (by decide))]
    rcases a1 l hl with q | ⟨q1, q2, q3⟩ | ⟨q1, q2, q3⟩ | ⟨q1, q2, q3⟩ | ⟨q1, q2, q3⟩ | ⟨q1, q2, q3⟩
    · exact Or.inl q
    · exact Or.inr (Or.inl (⟨gr_lab g q1 (by decide), q2, fun i h0 h1 => by rw [(gr_cx g c2 (160, -1) (by decide) (L := 160) rfl (Or.inl rfl) q1 (by decide))]; exact gr_lab g (q3 i h0 h1) (by decide)⟩))
    · exact Or.inr (Or.inr (Or.inl (⟨gr_lab g q1 (by decide), q2, fun i h0 h1 => by rw [(gr_cx g c2 (161, -1) (by decide) (L := 161) rfl (Or.inl rfl) q1 (by decide))]; exact gr_lab g (q3 i h0 h1) (by decide)⟩)))
    · exact Or.inr (Or.inr (Or.inr (Or.inl (⟨gr_lab g q1 (by decide), q2, fun i h0 h1 => by rw [(gr_cx g c2 (162, -1) (by decide) (L := 162) rfl (Or.inl rfl) q1 (by decide))]; exact gr_lab g (q3 i h0 h1) (by decide)⟩))))
    · exact Or.inr (Or.inr (Or.inr (Or.inr (Or.inl (⟨gr_lab g q1 (by decide), q2, fun i h0 h1 => by rw [(gr_cx g c2 (163, -1) (by decide) (L := 163) rfl (Or.inl rfl) q1 (by decide))]; exact gr_lab g (q3 i h0 h1) (by decide)⟩)))))
    · exact Or.inr (Or.inr (Or.inr (Or.inr (Or.inr (⟨gr_lab g q1 (by decide), q2, fun i h0 h1 => by rw [(gr_cx g c2 (164, -1) (by decide) (L := 164) rfl (Or.inl rfl) q1 (by decide))]; exact gr_lab g (q3 i h0 h1) (by decide)⟩)))))
  · intro l hl
    have hl := gr_bk g c1 rfl hl
    rw [(gr_cx g c2 (155, 1) (by decide) (L := 155) (j := 1) rfl (Or.inr rfl) hl (by decide)), (gr_cx g c2 (155, 2) (by decide) (L := 155) (j := 2) rfl (Or.inr rfl) hl (by decide))]
    rcases a2 l hl with q | ⟨q1, q2, q3⟩ | ⟨q1, q2, q3⟩ | ⟨q1, q2, q3⟩ | ⟨q1, q2, q3⟩ | ⟨q1, q2, q3⟩
    · exact Or.inl q
    · exact Or.inr (Or.inl (⟨gr_lab g q1 (by decide), q2, fun i h0 h1 => by rw [(gr_cx g c2 (165, -1) (by decide) (L := 165) rfl (Or.inl rfl) q1 (by decide))]; exact gr_lab g (q3 i h0 h1) (by decide)⟩))
    · exact Or.inr (Or.inr (Or.inl (⟨gr_lab g q1 (by decide), q2, fun i h0 h1 => by rw [(gr_cx g c2 (166, -1) (by decide) (L := 166) rfl (Or.inl rfl) q1 (by decide))]; exact gr_lab g (q3 i h0 h1) (by decide)⟩)))
    · exact Or.inr (Or.inr (Or.inr (Or.inl (⟨gr_lab g q1 (by decide), q2, fun i h0 h1 => by rw [(gr_cx g c2 (167, -1) (by decide) (L := 167) rfl (Or.inl rfl) q1 (by decide))]; exact gr_lab g (q3 i h0 h1) (by decide)⟩))))
    · exact Or.inr (Or.inr (Or.inr (Or.inr (Or.inl (⟨gr_lab g q1 (by decide), q2, fun i h0 h1 => by rw [(gr_cx g c2 (168, -1) (by decide) (L := 168) rfl (Or.inl rfl) q1 (by decide))]; exact gr_lab g (q3 i h0 h1) (by decide)⟩)))))
    · exact Or.inr (Or.inr (Or.inr (Or.inr (Or.inr (⟨gr_lab g q1 (by decide), q2, fun i h0 h1 => by rw [(gr_cx g c2 (169, -1) (by decide) (L := 169) rfl (Or.inl rfl) q1 (by decide))]; exact gr_lab g (q3 i h0 h1) (by decide)⟩)))))
  · intro l hl
    have hl := gr_bk g c1 rfl hl
    rw [(gr_cx g c2 (156, 1) (by decide) (L := 156) (j := 1) rfl (Or.inr rfl) hl (by decide)), (gr_cx g c2 (156, 2) (by decide) (L := 156) (j := 2) rfl (Or.inr rfl) hl (by decide))]
    rcases a3 l hl with q | ⟨q1, q2, q3⟩ | ⟨q1, q2, q3⟩ | ⟨q1, q2, q3⟩
    · exact Or.inl q
    · exact Or.inr (Or.inl (⟨gr_lab g q1 (by decide), q2, fun i h0 h1 => by rw [(gr_cx g c2 (170, -1) (by decide) (L := 170) rfl (Or.inl rfl) q1 (by decide))]; exact gr_lab g (q3 i h0 h1) (by decide)⟩))
    · exact Or.inr (Or.inr (Or.inl (⟨gr_lab g q1 (by decide), q2, fun i h0 h1 => by rw [(gr_cx g c2 (171, -1) (by decide) (L := 171) rfl (Or.inl rfl) q1 (by decide))]; exact gr_lab g (q3 i h0 h1) (by decide)⟩)))
    · exact Or.inr (Or.inr (Or.inr (⟨gr_lab g q1 (by decide), q2, fun i h0 h1 => by rw [(gr_cx g c2 (172, -1) (by decide) (L := 172) rfl (Or.inl rfl) q1 (by decide))]; exact gr_lab g (q3 i h0 h1) (by decide)⟩)))
  · intro l hl
    have hl := gr_bk g c1 rfl hl
    rw [(gr_cx g c2 (157, 1) (by decide) (L := 157) (j := 1) rfl (Or.inr rfl) hl (by decide)), (gr_cx g c2 (157, 2) (by decide) (L := 157) (j := 2) rfl (Or.inr rfl) hl (by decide))]
    rcases a4 l hl with q | ⟨q1, q2, q3⟩ | ⟨q1, q2, q3⟩ | ⟨q1, q2, q3⟩ | ⟨q1, q2, q3⟩ | ⟨q1, q2, q3⟩ | ⟨q1, q2, q3⟩
    · exact Or.inl q
    · exact Or.inr (Or.inl (⟨gr_lab g q1 (by decide), q2, fun i h0 h1 => by rw [(gr_cx g c2 (173, -1) (by decide) (L := 173) rfl (Or.inl rfl) q1 (by decide))]; exact gr_lab g (q3 i h0 h1) (by decide)⟩))
    · exact Or.inr (Or.inr (Or.inl (⟨gr_lab g q1 (by decide), q2, fun i h0 h1 => by rw [(gr_cx g c2 (174, -1) (by decide) (L := 174) rfl (Or.inl rfl) q1 (by decide))]; exact gr_lab g (q3 i h0 h1) (by decide)⟩)))
    · exact Or.inr (Or.inr (Or.inr (Or.inl (⟨gr_lab g q1 (by decide), q2, fun i h0 h1 => by rw [(gr_cx g c2 (175, -1) (by decide) (L := 175) rfl (Or.inl rfl) q1 (by decide))]; exact gr_lab g (q3 i h0 h1) (by decide)⟩))))
    · exact Or.inr (Or.inr (Or.inr (Or.inr (Or.inl (⟨gr_lab g q1 (by decide), q2, fun i h0 h1 => by rw [(gr_cx g c2 (176, -1) (by decide) (L := 176) rfl (Or.inl rfl) q1 (by decide))]; exact gr_lab g (q3 i h0 h1) (by decide)⟩)))))
    · exact Or.inr (Or.inr (Or.inr (Or.inr (Or.inr (Or.inl (⟨gr_lab g q1 (by decide), q2, fun i h0 h1 => by rw [(gr_cx g c2 (177, -1) (by decide) (L := 177) rfl (Or.inl rfl) q1 (by decide))]; exact gr_lab g (q3 i h0 h1) (by decide)⟩))))))
    · exact Or.inr (Or.inr (Or.inr (Or.inr (Or.inr (Or.inr (⟨gr_lab g q1 (by decide), q2, fun i h0 h1 => by rw [(gr_cx g c2 (178, -1) (by decide) (L := 178) rfl (Or.inl rfl) q1 (by decide))]; exact gr_lab g (q3 i h0 h1) (by decide)⟩))))))
  · intro l hl
    have hl := gr_bk g c1 rfl hl
    rw [(gr_cx g c2 (158, 1) (by decide) (L := 158) (j := 1) rfl (Or.inr rfl) hl (by decide)), (gr_cx g c2 (158, 2) (by decide) (L := 158) (j := 2) rfl (Or.inr rfl) hl (by decide))]
    rcases a5 l hl with q | ⟨q1, q2, q3⟩
    · exact Or.inl q
    · exact Or.inr (⟨gr_lab g q1 (by decide), q2, fun i h0 h1 => by rw [(gr_cx g c2 (179, -1) (by decide) (L := 179) rfl (Or.inl rfl) q1 (by decide))]; exact gr_lab g (q3 i h0 h1) (by decide)⟩)
  · intro l hl
    have hl := gr_bk g c1 rfl hl
    rw [a0 l a (hl.trans hS.symm) (by rw [hl]; rfl)]
    exact lb
  · intro t ht i h0 h1 hh
    have ht := gr_bk g c1 rfl ht
    rw [(gr_cx g c2 (136, 3) (by decide) (L := 136) (j := 3) rfl (Or.inr rfl) ht (by decide)), (gr_cx g c2 (120, -1) (by decide) (L := 120) rfl (Or.inl rfl) (tk t ht).1 (by decide))] at hh
    rw [(gr_cx g c2 (136, 5) (by decide) (L := 136) (j := 5) rfl (Or.inr rfl) ht (by decide)), (gr_cx g c2 (121, -1) (by decide) (L := 121) rfl (Or.inl rfl) (tk t ht).2 (by decide))]
    exact a7 t ht i h0 h1 hh
  · intro t u ht hu hh
    have ht := gr_bk g c1 rfl ht
    have hu := gr_bk g c1 rfl hu
    rw [(gr_cx g c2 (136, 3) (by decide) (L := 136) (j := 3) rfl (Or.inr rfl) ht (by decide)), (gr_cx g c2 (136, 3) (by decide) (L := 136) (j := 3) rfl (Or.inr rfl) hu (by decide)), (gr_cx g c2 (136, 5) (by decide) (L := 136) (j := 5) rfl (Or.inr rfl) ht (by decide)), (gr_cx g c2 (136, 5) (by decide) (L := 136) (j := 5) rfl (Or.inr rfl) hu (by decide))] at hh
    exact a8 t u ht hu hh
  · intro p l hp hl
    have hp := gr_bk g c1 rfl hp
    have hl := gr_bk g c1 rfl hl
    rw [(gr_cx g c2 (138, 2) (by decide) (L := 138) (j := 2) rfl (Or.inr rfl) hp (by decide)), (gr_cx g c2 (156, 2) (by decide) (L := 156) (j := 2) rfl (Or.inr rfl) hl (by decide))]
    exact a9 p l hp hl
end CIA
theorem fl_Jx4a65c_63_154 : Fl RJx4a65c 63 154 0 (0, (-2147483648), 2147483647) := ⟨0, 3, fs_154, RJx4a65c, TJx4a65c, rfl, rfl, by decide, rfl, by decide, rfl, cf_Jx4a65c, (tbg sg1 142 rfl rfl)⟩
theorem fp_Jx4a65c_63_154 : Fp RJx4a65c 63 154 0 (0, (-2147483648), 2147483647) := ⟨fl_Jx4a65c_63_154, 0, 3, fs_154, RJx4a65c, TJx4a65c, .int, rfl, rfl, rfl, by decide +kernel, fun E S x h => ⟨rfl, rfl⟩⟩
theorem co_Jx4a65c_add_72be8 : Co mJx4a65c_add_72be8 3 := ⟨(tbg sg3 76 rfl rfl), (tbg sg1 6 rfl rfl), by decide, by decide, by decide +kernel, by decide⟩
theorem cv_Jx4a65c_131_154 : Cv RJx4a65c 131 mJx4a65c_add_72be8 154 3 := ⟨co_Jx4a65c_add_72be8, (tbg sg3 73 rfl rfl), (tbg sg3 75 rfl rfl), 0, 3, fs_154, RJx4a65c, TJx4a65c, rfl, by decide, rfl, (tbm 2 (by decide +kernel) rfl)⟩
theorem fl_Jx4a65c_63_155 : Fl RJx4a65c 63 155 0 (0, (-2147483648), 2147483647) := ⟨0, 3, fs_155, RJx4a65c, TJx4a65c, rfl, rfl, by decide, rfl, by decide, rfl, cf_Jx4a65c, (tbg sg1 142 rfl rfl)⟩
theorem fp_Jx4a65c_63_155 : Fp RJx4a65c 63 155 0 (0, (-2147483648), 2147483647) := ⟨fl_Jx4a65c_63_155, 0, 3, fs_155, RJx4a65c, TJx4a65c, .int, rfl, rfl, rfl, by decide +kernel, fun E S x h => ⟨rfl, rfl⟩⟩
theorem cv_Jx4a65c_131_155 : Cv RJx4a65c 131 mJx4a65c_add_72be8 155 3 := ⟨co_Jx4a65c_add_72be8, (tbg sg3 73 rfl rfl), (tbg sg3 75 rfl rfl), 0, 3, fs_155, RJx4a65c, TJx4a65c, rfl, by decide, rfl, (tbm 2 (by decide +kernel) rfl)⟩
theorem fl_Jx4a65c_63_156 : Fl RJx4a65c 63 156 0 (0, (-2147483648), 2147483647) := ⟨0, 3, fs_156, RJx4a65c, TJx4a65c, rfl, rfl, by decide, rfl, by decide, rfl, cf_Jx4a65c, (tbg sg1 142 rfl rfl)⟩
theorem fp_Jx4a65c_63_156 : Fp RJx4a65c 63 156 0 (0, (-2147483648), 2147483647) := ⟨fl_Jx4a65c_63_156, 0, 3, fs_156, RJx4a65c, TJx4a65c, .int, rfl, rfl, rfl, by decide +kernel, fun E S x h => ⟨rfl, rfl⟩⟩
theorem cv_Jx4a65c_131_156 : Cv RJx4a65c 131 mJx4a65c_add_72be8 156 3 := ⟨co_Jx4a65c_add_72be8, (tbg sg3 73 rfl rfl), (tbg sg3 75 rfl rfl), 0, 3, fs_156, RJx4a65c, TJx4a65c, rfl, by decide, rfl, (tbm 2 (by decide +kernel) rfl)⟩
theorem fl_Jx4a65c_63_157 : Fl RJx4a65c 63 157 0 (0, (-2147483648), 2147483647) := ⟨0, 3, fs_157, RJx4a65c, TJx4a65c, rfl, rfl, by decide, rfl, by decide, rfl, cf_Jx4a65c, (tbg sg1 142 rfl rfl)⟩
theorem fp_Jx4a65c_63_157 : Fp RJx4a65c 63 157 0 (0, (-2147483648), 2147483647) := ⟨fl_Jx4a65c_63_157, 0, 3, fs_157, RJx4a65c, TJx4a65c, .int, rfl, rfl, rfl, by decide +kernel, fun E S x h => ⟨rfl, rfl⟩⟩
theorem cv_Jx4a65c_131_157 : Cv RJx4a65c 131 mJx4a65c_add_72be8 157 3 := ⟨co_Jx4a65c_add_72be8, (tbg sg3 73 rfl rfl), (tbg sg3 75 rfl rfl), 0, 3, fs_157, RJx4a65c, TJx4a65c, rfl, by decide, rfl, (tbm 2 (by decide +kernel) rfl)⟩
theorem fl_Jx4a65c_63_158 : Fl RJx4a65c 63 158 0 (0, (-2147483648), 2147483647) := ⟨0, 3, fs_158, RJx4a65c, TJx4a65c, rfl, rfl, by decide, rfl, by decide, rfl, cf_Jx4a65c, (tbg sg1 142 rfl rfl)⟩
theorem fp_Jx4a65c_63_158 : Fp RJx4a65c 63 158 0 (0, (-2147483648), 2147483647) := ⟨fl_Jx4a65c_63_158, 0, 3, fs_158, RJx4a65c, TJx4a65c, .int, rfl, rfl, rfl, by decide +kernel, fun E S x h => ⟨rfl, rfl⟩⟩
theorem cv_Jx4a65c_131_158 : Cv RJx4a65c 131 mJx4a65c_add_72be8 158 3 := ⟨co_Jx4a65c_add_72be8, (tbg sg3 73 rfl rfl), (tbg sg3 75 rfl rfl), 0, 3, fs_158, RJx4a65c, TJx4a65c, rfl, by decide, rfl, (tbm 2 (by decide +kernel) rfl)⟩
theorem fl_Jx4a65c_63_159 : Fl RJx4a65c 63 159 0 (0, (-2147483648), 2147483647) := ⟨0, 3, fs_159, RJx4a65c, TJx4a65c, rfl, rfl, by decide, rfl, by decide, rfl, cf_Jx4a65c, (tbg sg1 142 rfl rfl)⟩
theorem fp_Jx4a65c_63_159 : Fp RJx4a65c 63 159 0 (0, (-2147483648), 2147483647) := ⟨fl_Jx4a65c_63_159, 0, 3, fs_159, RJx4a65c, TJx4a65c, .int, rfl, rfl, rfl, by decide +kernel, fun E S x h => ⟨rfl, rfl⟩⟩
theorem cv_Jx4a65c_131_159 : Cv RJx4a65c 131 mJx4a65c_add_72be8 159 3 := ⟨co_Jx4a65c_add_72be8, (tbg sg3 73 rfl rfl), (tbg sg3 75 rfl rfl), 0, 3, fs_159, RJx4a65c, TJx4a65c, rfl, by decide, rfl, (tbm 2 (by decide +kernel) rfl)⟩
set_option maxRecDepth 100000 in
set_option maxHeartbeats 4000000 in
theorem c_add_Lis (E : En) (S : Sg) (G : Gh) (this : Int) (e : Int) (hS : S this = 154) (e_s : S e = 139) (sz : Int) (sz_e : sz = G 154 this 2) (pre0 : sz + 1 ≤ 40) (ci : CI E S G) : Calls E mJx4a65c_add_9ea2d [(2, this), (2, e)] S G 14 1 49 (fun r S' G' => Gr [160, 161, 162, 163, 164] [(154, 0), (154, 1), (154, 2), (160, -1), (161, -1), (162, -1), (163, -1), (164, -1)] S G S' G' ∧ ∃ z : Int, r = some (0, z) ∧ 1 ≤ z ∧ z ≤ 1 ∧ CI E S' G' ∧ G' 154 this 2 = sz + 1) := by
  refine calls_by [(0, (2, this)), (1, (2, e))] rfl rfl (Nat.le_of_ble_eq_true rfl) (fun X hX => ?_)
  have hP := hPJx4a65c_add_9ea2d
  refine r_peekI hX (tl_154 2 rfl (by decide)) hS (fun sz_o sz_oe sz_oa sz_ob => ?_)
  obtain rfl : sz = sz_o := sz_e.trans sz_oe.symm
  refine r_tk hX (fun tk0 => ?_)
  refine r_ex hX hP 2 (pc' := 2) (st' := [(2, this), (2, this)]) (lo' := [(0, (2, this)), (1, (2, e))]) rfl ?_
  refine r_getI hX hP rfl fl_Jx4a65c_63_154 hS (fun mf1 mf1e mf1a mf1b => ?_)
  refine r_ex hX hP 2 (pc' := 7) (st' := [(0, (mf1 + 1)), (2, this)]) (lo' := [(0, (2, this)), (1, (2, e))]) rfl ?_
  refine r_hvI hX (fun w2 w2a w2b w2e => ?_)
  refine r_putIK hX hP rfl fp_Jx4a65c_63_154 hS (by omega) (by omega) (fun h3 => ?_)
  refine r_ex hX hP 3 (pc' := 13) (st' := [(2, this), (2, e), (2, this)]) (lo' := [(0, (2, this)), (1, (2, e))]) rfl ?_
  refine r_get5 hX hP rfl fl_Jx4a65c_9_154 hS (fun ef4 ef4e ef4o => ?_)
  refine r_ex hX hP 1 (pc' := 17) (st' := [(2, this), (2, ef4), (2, e), (2, this)]) (lo' := [(0, (2, this)), (1, (2, e))]) rfl ?_
  refine r_getKI hX hP rfl fl_Jx4a65c_48_154 hS (x := sz) sz_e ?_
  rcases ci.2.1 this hS with ⟨q1, q2⟩ | ⟨q1, q2, q3⟩ | ⟨q1, q2, q3⟩ | ⟨q1, q2, q3⟩ | ⟨q1, q2, q3⟩ | ⟨q1, q2, q3⟩
  · skip
    obtain rfl : ef4 = Ad E 0 := ef4e.trans q1
    have q2 : sz = 0 := sz_e.trans q2
    have g5 : Gr [160, 161, 162, 163, 164] [(154, 0), (154, 1), (154, 2), (160, -1), (161, -1), (162, -1), (163, -1), (164, -1)] S G S (up G 154 this 0 w2) := (gr_up (gr_refl [160, 161, 162, 163, 164] [(154, 0), (154, 1), (154, 2), (160, -1), (161, -1), (162, -1), (163, -1), (164, -1)] S G) rfl)
    refine r_callV gd hX hP rfl cv_Jx4a65c_131_154 hS (d' := 12) (mc' := 1) (ms' := 10) (as' := [(2, e), (2, (Ad E 0)), (0, sz)]) (st := []) (by omega) (by omega) (by omega) rfl rfl (Nat.le_of_ble_eq_true rfl) (c_ad3_Lis_E E S (up G 154 this 0 w2) this e (Ad E 0) sz hS e_s (by omega) (by omega) sz_e rfl ef4e) ?_
    rintro _ S6 G7 ⟨g8, rfl, q9, q10⟩
    have s11 : S6 this = 154 := gr_lab g8 hS (by decide)
    have s12 : S6 e = 139 := gr_lab g8 e_s (by decide)
    have e13 : w2 = G7 154 this 0 := gr_val g8 h3 hS (by decide) rfl
    have g14 : Gr [160, 161, 162, 163, 164] [(154, 0), (154, 1), (154, 2), (160, -1), (161, -1), (162, -1), (163, -1), (164, -1)] S G S6 G7 := gr_call g5 g8 rfl rfl
    refine r_ex hX hP 1 (pc' := 24) (st' := [(0, 1)]) (lo' := [(0, (2, this)), (1, (2, e))]) rfl ?_
    exact r_retZ hX hP rfl rfl (by omega) (by omega) (by omega) (by omega) ⟨g14, 1, rfl, (by omega), (by omega), (ci_ad0 ci tk0 g14 rfl rfl hS q9 (by have e := q10; omega)), q10⟩
  · skip
    have qs : S ef4 = 160 := by rw [ef4e]; exact q1
    have q2 : sz ≤ 10 := by rw [sz_e]; exact q2
    have q3 : ∀ i : Int, 0 ≤ i → i < sz → S (G 160 ef4 i) = 139 := by rw [sz_e, ef4e]; exact q3
    have g15 : Gr [160, 161, 162, 163, 164] [(154, 0), (154, 1), (154, 2), (160, -1), (161, -1), (162, -1), (163, -1), (164, -1)] S G S (up G 154 this 0 w2) := (gr_up (gr_refl [160, 161, 162, 163, 164] [(154, 0), (154, 1), (154, 2), (160, -1), (161, -1), (162, -1), (163, -1), (164, -1)] S G) rfl)
    refine r_callV gd hX hP rfl cv_Jx4a65c_131_154 hS (d' := 12) (mc' := 1) (ms' := 15) (as' := [(2, e), (2, ef4), (0, sz)]) (st := []) (by omega) (by omega) (by omega) rfl rfl (Nat.le_of_ble_eq_true rfl) (c_ad3_Lis_0 E S (up G 154 this 0 w2) this e ef4 sz hS e_s qs (by omega) (by omega) sz_e ef4e q3) ?_
    rintro _ S16 G17 ⟨g18, rfl, q19, q20⟩
    have s21 : S16 this = 154 := gr_lab g18 hS (by decide)
    have s22 : S16 e = 139 := gr_lab g18 e_s (by decide)
    have s23 : S16 ef4 = 160 := gr_lab g18 qs (by decide)
    have e24 : w2 = G17 154 this 0 := gr_val g18 h3 hS (by decide) rfl
    have g25 : Gr [160, 161, 162, 163, 164] [(154, 0), (154, 1), (154, 2), (160, -1), (161, -1), (162, -1), (163, -1), (164, -1)] S G S16 G17 := gr_call g15 g18 rfl rfl
    refine r_ex hX hP 1 (pc' := 24) (st' := [(0, 1)]) (lo' := [(0, (2, this)), (1, (2, e))]) rfl ?_
    exact r_retZ hX hP rfl rfl (by omega) (by omega) (by omega) (by omega) ⟨g25, 1, rfl, (by omega), (by omega), (ci_ad0 ci tk0 g25 rfl rfl hS q19 (by have e := q20; omega)), q20⟩
  · skip
    have qs : S ef4 = 161 := by rw [ef4e]; exact q1
    have q2 : sz ≤ 15 := by rw [sz_e]; exact q2
    have q3 : ∀ i : Int, 0 ≤ i → i < sz → S (G 161 ef4 i) = 139 := by rw [sz_e, ef4e]; exact q3
    have g26 : Gr [160, 161, 162, 163, 164] [(154, 0), (154, 1), (154, 2), (160, -1), (161, -1), (162, -1), (163, -1), (164, -1)] S G S (up G 154 this 0 w2) := (gr_up (gr_refl [160, 161, 162, 163, 164] [(154, 0), (154, 1), (154, 2), (160, -1), (161, -1), (162, -1), (163, -1), (164, -1)] S G) rfl)
    refine r_callV gd hX hP rfl cv_Jx4a65c_131_154 hS (d' := 12) (mc' := 1) (ms' := 22) (as' := [(2, e), (2, ef4), (0, sz)]) (st := []) (by omega) (by omega) (by omega) rfl rfl (Nat.le_of_ble_eq_true rfl) (c_ad3_Lis_1 E S (up G 154 this 0 w2) this e ef4 sz hS e_s qs (by omega) (by omega) sz_e ef4e q3) ?_
    rintro _ S27 G28 ⟨g29, rfl, q30, q31⟩
    have s32 : S27 this = 154 := gr_lab g29 hS (by decide)
    have s33 : S27 e = 139 := gr_lab g29 e_s (by decide)
    have s34 : S27 ef4 = 161 := gr_lab g29 qs (by decide)
    have e35 : w2 = G28 154 this 0 := gr_val g29 h3 hS (by decide) rfl
    have g36 : Gr [160, 161, 162, 163, 164] [(154, 0), (154, 1), (154, 2), (160, -1), (161, -1), (162, -1), (163, -1), (164, -1)] S G S27 G28 := gr_call g26 g29 rfl rfl
    refine r_ex hX hP 1 (pc' := 24) (st' := [(0, 1)]) (lo' := [(0, (2, this)), (1, (2, e))]) rfl ?_
    exact r_retZ hX hP rfl rfl (by omega) (by omega) (by omega) (by omega) ⟨g36, 1, rfl, (by omega), (by omega), (ci_ad0 ci tk0 g36 rfl rfl hS q30 (by have e := q31; omega)), q31⟩
  · skip
    have qs : S ef4 = 162 := by rw [ef4e]; exact q1
    have q2 : sz ≤ 22 := by rw [sz_e]; exact q2
    have q3 : ∀ i : Int, 0 ≤ i → i < sz → S (G 162 ef4 i) = 139 := by rw [sz_e, ef4e]; exact q3
    have g37 : Gr [160, 161, 162, 163, 164] [(154, 0), (154, 1), (154, 2), (160, -1), (161, -1), (162, -1), (163, -1), (164, -1)] S G S (up G 154 this 0 w2) := (gr_up (gr_refl [160, 161, 162, 163, 164] [(154, 0), (154, 1), (154, 2), (160, -1), (161, -1), (162, -1), (163, -1), (164, -1)] S G) rfl)
    refine r_callV gd hX hP rfl cv_Jx4a65c_131_154 hS (d' := 12) (mc' := 1) (ms' := 33) (as' := [(2, e), (2, ef4), (0, sz)]) (st := []) (by omega) (by omega) (by omega) rfl rfl (Nat.le_of_ble_eq_true rfl) (c_ad3_Lis_2 E S (up G 154 this 0 w2) this e ef4 sz hS e_s qs (by omega) (by omega) sz_e ef4e q3) ?_
    rintro _ S38 G39 ⟨g40, rfl, q41, q42⟩
    have s43 : S38 this = 154 := gr_lab g40 hS (by decide)
    have s44 : S38 e = 139 := gr_lab g40 e_s (by decide)
    have s45 : S38 ef4 = 162 := gr_lab g40 qs (by decide)
    have e46 : w2 = G39 154 this 0 := gr_val g40 h3 hS (by decide) rfl
    have g47 : Gr [160, 161, 162, 163, 164] [(154, 0), (154, 1), (154, 2), (160, -1), (161, -1), (162, -1), (163, -1), (164, -1)] S G S38 G39 := gr_call g37 g40 rfl rfl
    refine r_ex hX hP 1 (pc' := 24) (st' := [(0, 1)]) (lo' := [(0, (2, this)), (1, (2, e))]) rfl ?_
    exact r_retZ hX hP rfl rfl (by omega) (by omega) (by omega) (by omega) ⟨g47, 1, rfl, (by omega), (by omega), (ci_ad0 ci tk0 g47 rfl rfl hS q41 (by have e := q42; omega)), q42⟩
  · skip
    have qs : S ef4 = 163 := by rw [ef4e]; exact q1
    have q2 : sz ≤ 33 := by rw [sz_e]; exact q2
    have q3 : ∀ i : Int, 0 ≤ i → i < sz → S (G 163 ef4 i) = 139 := by rw [sz_e, ef4e]; exact q3
    have g48 : Gr [160, 161, 162, 163, 164] [(154, 0), (154, 1), (154, 2), (160, -1), (161, -1), (162, -1), (163, -1), (164, -1)] S G S (up G 154 this 0 w2) := (gr_up (gr_refl [160, 161, 162, 163, 164] [(154, 0), (154, 1), (154, 2), (160, -1), (161, -1), (162, -1), (163, -1), (164, -1)] S G) rfl)
    refine r_callV gd hX hP rfl cv_Jx4a65c_131_154 hS (d' := 12) (mc' := 1) (ms' := 49) (as' := [(2, e), (2, ef4), (0, sz)]) (st := []) (by omega) (by omega) (by omega) rfl rfl (Nat.le_of_ble_eq_true rfl) (c_ad3_Lis_3 E S (up G 154 this 0 w2) this e ef4 sz hS e_s qs (by omega) (by omega) sz_e ef4e q3) ?_
    rintro _ S49 G50 ⟨g51, rfl, q52, q53⟩
    have s54 : S49 this = 154 := gr_lab g51 hS (by decide)
    have s55 : S49 e = 139 := gr_lab g51 e_s (by decide)
    have s56 : S49 ef4 = 163 := gr_lab g51 qs (by decide)
    have e57 : w2 = G50 154 this 0 := gr_val g51 h3 hS (by decide) rfl
    have g58 : Gr [160, 161, 162, 163, 164] [(154, 0), (154, 1), (154, 2), (160, -1), (161, -1), (162, -1), (163, -1), (164, -1)] S G S49 G50 := gr_call g48 g51 rfl rfl
    refine r_ex hX hP 1 (pc' := 24) (st' := [(0, 1)]) (lo' := [(0, (2, this)), (1, (2, e))]) rfl ?_
    exact r_retZ hX hP rfl rfl (by omega) (by omega) (by omega) (by omega) ⟨g58, 1, rfl, (by omega), (by omega), (ci_ad0 ci tk0 g58 rfl rfl hS q52 (by have e := q53; omega)), q53⟩
  · skip
    have qs : S ef4 = 164 := by rw [ef4e]; exact q1
    have q2 : sz ≤ 49 := by rw [sz_e]; exact q2
    have q3 : ∀ i : Int, 0 ≤ i → i < sz → S (G 164 ef4 i) = 139 := by rw [sz_e, ef4e]; exact q3
    have g59 : Gr [160, 161, 162, 163, 164] [(154, 0), (154, 1), (154, 2), (160, -1), (161, -1), (162, -1), (163, -1), (164, -1)] S G S (up G 154 this 0 w2) := (gr_up (gr_refl [160, 161, 162, 163, 164] [(154, 0), (154, 1), (154, 2), (160, -1), (161, -1), (162, -1), (163, -1), (164, -1)] S G) rfl)
    refine r_callV gd hX hP rfl cv_Jx4a65c_131_154 hS (d' := 12) (mc' := 0) (ms' := 0) (as' := [(2, e), (2, ef4), (0, sz)]) (st := []) (by omega) (by omega) (by omega) rfl rfl (Nat.le_of_ble_eq_true rfl) (c_ad3_Lis_4 E S (up G 154 this 0 w2) this e ef4 sz hS e_s qs (by omega) (by omega) sz_e ef4e q3) ?_
    rintro _ S60 G61 ⟨g62, rfl, q63, q64⟩
    have s65 : S60 this = 154 := gr_lab g62 hS (by decide)
    have s66 : S60 e = 139 := gr_lab g62 e_s (by decide)
    have s67 : S60 ef4 = 164 := gr_lab g62 qs (by decide)
    have e68 : w2 = G61 154 this 0 := gr_val g62 h3 hS (by decide) rfl
    have e69 : ef4 = G61 154 this 1 := gr_val g62 ef4e hS (by decide) rfl
    have g70 : Gr [160, 161, 162, 163, 164] [(154, 0), (154, 1), (154, 2), (160, -1), (161, -1), (162, -1), (163, -1), (164, -1)] S G S60 G61 := gr_call g59 g62 rfl rfl
    refine r_ex hX hP 1 (pc' := 24) (st' := [(0, 1)]) (lo' := [(0, (2, this)), (1, (2, e))]) rfl ?_
    exact r_retZ hX hP rfl rfl (by omega) (by omega) (by omega) (by omega) ⟨g70, 1, rfl, (by omega), (by omega), (ci_ad0 ci tk0 g70 rfl rfl hS q63 (by have e := q64; omega)), q64⟩
set_option maxRecDepth 100000 in
set_option maxHeartbeats 4000000 in
theorem c_add_Ltr (E : En) (S : Sg) (G : Gh) (this : Int) (e : Int) (hS : S this = 155) (e_s : S e = 140) (sz : Int) (sz_e : sz = G 155 this 2) (pre0 : sz + 1 ≤ 40) (ci : CI E S G) : Calls E mJx4a65c_add_9ea2d [(2, this), (2, e)] S G 14 1 49 (fun r S' G' => Gr [165, 166, 167, 168, 169] [(155, 0), (155, 1), (155, 2), (165, -1), (166, -1), (167, -1), (168, -1), (169, -1)] S G S' G' ∧ ∃ z : Int, r = some (0, z) ∧ 1 ≤ z ∧ z ≤ 1 ∧ CI E S' G' ∧ G' 155 this 2 = sz + 1) := by
  refine calls_by [(0, (2, this)), (1, (2, e))] rfl rfl (Nat.le_of_ble_eq_true rfl) (fun X hX => ?_)
  have hP := hPJx4a65c_add_9ea2d
  refine r_peekI hX (tl_155 2 rfl (by decide)) hS (fun sz_o sz_oe sz_oa sz_ob => ?_)
  obtain rfl : sz = sz_o := sz_e.trans sz_oe.symm
  refine r_tk hX (fun tk0 => ?_)
  refine r_ex hX hP 2 (pc' := 2) (st' := [(2, this), (2, this)]) (lo' := [(0, (2, this)), (1, (2, e))]) rfl ?_
  refine r_getI hX hP rfl fl_Jx4a65c_63_155 hS (fun mf1 mf1e mf1a mf1b => ?_)
  refine r_ex hX hP 2 (pc' := 7) (st' := [(0, (mf1 + 1)), (2, this)]) (lo' := [(0, (2, this)), (1, (2, e))]) rfl ?_
  refine r_hvI hX (fun w2 w2a w2b w2e => ?_)
  refine r_putIK hX hP rfl fp_Jx4a65c_63_155 hS (by omega) (by omega) (fun h3 => ?_)
  refine r_ex hX hP 3 (pc' := 13) (st' := [(2, this), (2, e), (2, this)]) (lo' := [(0, (2, this)), (1, (2, e))]) rfl ?_
  refine r_get5 hX hP rfl fl_Jx4a65c_9_155 hS (fun ef4 ef4e ef4o => ?_)
  refine r_ex hX hP 1 (pc' := 17) (st' := [(2, this), (2, ef4), (2, e), (2, this)]) (lo' := [(0, (2, this)), (1, (2, e))]) rfl ?_
  refine r_getKI hX hP rfl fl_Jx4a65c_48_155 hS (x := sz) sz_e ?_
  rcases ci.2.2.1 this hS with ⟨q1, q2⟩ | ⟨q1, q2, q3⟩ | ⟨q1, q2, q3⟩ | ⟨q1, q2, q3⟩ | ⟨q1, q2, q3⟩ | ⟨q1, q2, q3⟩
  · skip
    obtain rfl : ef4 = Ad E 0 := ef4e.trans q1
    have q2 : sz = 0 := sz_e.trans q2
    have g5 : Gr [165, 166, 167, 168, 169] [(155, 0), (155, 1), (155, 2), (165, -1), (166, -1), (167, -1), (168, -1), (169, -1)] S G S (up G 155 this 0 w2) := (gr_up (gr_refl [165, 166, 167, 168, 169] [(155, 0), (155, 1), (155, 2), (165, -1), (166, -1), (167, -1), (168, -1), (169, -1)] S G) rfl)
    refine r_callV gd hX hP rfl cv_Jx4a65c_131_155 hS (d' := 12) (mc' := 1) (ms' := 10) (as' := [(2, e), (2, (Ad E 0)), (0, sz)]) (st := []) (by omega) (by omega) (by omega) rfl rfl (Nat.le_of_ble_eq_true rfl) (c_ad3_Ltr_E E S (up G 155 this 0 w2) this e (Ad E 0) sz hS e_s (by omega) (by omega) sz_e rfl ef4e) ?_
    rintro _ S6 G7 ⟨g8, rfl, q9, q10⟩
    have s11 : S6 this = 155 := gr_lab g8 hS (by decide)
    have s12 : S6 e = 140 := gr_lab g8 e_s (by decide)
    have e13 : w2 = G7 155 this 0 := gr_val g8 h3 hS (by decide) rfl
    have g14 : Gr [165, 166, 167, 168, 169] [(155, 0), (155, 1), (155, 2), (165, -1), (166, -1), (167, -1), (168, -1), (169, -1)] S G S6 G7 := gr_call g5 g8 rfl rfl
    refine r_ex hX hP 1 (pc' := 24) (st' := [(0, 1)]) (lo' := [(0, (2, this)), (1, (2, e))]) rfl ?_
    exact r_retZ hX hP rfl rfl (by omega) (by omega) (by omega) (by omega) ⟨g14, 1, rfl, (by omega), (by omega), (ci_ad1 ci tk0 g14 rfl rfl hS q9 (by have e := q10; omega)), q10⟩
  · skip
    have qs : S ef4 = 165 := by rw [ef4e]; exact q1
    have q2 : sz ≤ 10 := by rw [sz_e]; exact q2
    have q3 : ∀ i : Int, 0 ≤ i → i < sz → S (G 165 ef4 i) = 140 := by rw [sz_e, ef4e]; exact q3
    have g15 : Gr [165, 166, 167, 168, 169] [(155, 0), (155, 1), (155, 2), (165, -1), (166, -1), (167, -1), (168, -1), (169, -1)] S G S (up G 155 this 0 w2) := (gr_up (gr_refl [165, 166, 167, 168, 169] [(155, 0), (155, 1), (155, 2), (165, -1), (166, -1), (167, -1), (168, -1), (169, -1)] S G) rfl)
    refine r_callV gd hX hP rfl cv_Jx4a65c_131_155 hS (d' := 12) (mc' := 1) (ms' := 15) (as' := [(2, e), (2, ef4), (0, sz)]) (st := []) (by omega) (by omega) (by omega) rfl rfl (Nat.le_of_ble_eq_true rfl) (c_ad3_Ltr_0 E S (up G 155 this 0 w2) this e ef4 sz hS e_s qs (by omega) (by omega) sz_e ef4e q3) ?_
    rintro _ S16 G17 ⟨g18, rfl, q19, q20⟩
    have s21 : S16 this = 155 := gr_lab g18 hS (by decide)
    have s22 : S16 e = 140 := gr_lab g18 e_s (by decide)
    have s23 : S16 ef4 = 165 := gr_lab g18 qs (by decide)
    have e24 : w2 = G17 155 this 0 := gr_val g18 h3 hS (by decide) rfl
    have g25 : Gr [165, 166, 167, 168, 169] [(155, 0), (155, 1), (155, 2), (165, -1), (166, -1), (167, -1), (168, -1), (169, -1)] S G S16 G17 := gr_call g15 g18 rfl rfl
    refine r_ex hX hP 1 (pc' := 24) (st' := [(0, 1)]) (lo' := [(0, (2, this)), (1, (2, e))]) rfl ?_
    exact r_retZ hX hP rfl rfl (by omega) (by omega) (by omega) (by omega) ⟨g25, 1, rfl, (by omega), (by omega), (ci_ad1 ci tk0 g25 rfl rfl hS q19 (by have e := q20; omega)), q20⟩
  · skip
    have qs : S ef4 = 166 := by rw [ef4e]; exact q1
    have q2 : sz ≤ 15 := by rw [sz_e]; exact q2
    have q3 : ∀ i : Int, 0 ≤ i → i < sz → S (G 166 ef4 i) = 140 := by rw [sz_e, ef4e]; exact q3
    have g26 : Gr [165, 166, 167, 168, 169] [(155, 0), (155, 1), (155, 2), (165, -1), (166, -1), (167, -1), (168, -1), (169, -1)] S G S (up G 155 this 0 w2) := (gr_up (gr_refl [165, 166, 167, 168, 169] [(155, 0), (155, 1), (155, 2), (165, -1), (166, -1), (167, -1), (168, -1), (169, -1)] S G) rfl)
    refine r_callV gd hX hP rfl cv_Jx4a65c_131_155 hS (d' := 12) (mc' := 1) (ms' := 22) (as' := [(2, e), (2, ef4), (0, sz)]) (st := []) (by omega) (by omega) (by omega) rfl rfl (Nat.le_of_ble_eq_true rfl) (c_ad3_Ltr_1 E S (up G 155 this 0 w2) this e ef4 sz hS e_s qs (by omega) (by omega) sz_e ef4e q3) ?_
    rintro _ S27 G28 ⟨g29, rfl, q30, q31⟩
    have s32 : S27 this = 155 := gr_lab g29 hS (by decide)
    have s33 : S27 e = 140 := gr_lab g29 e_s (by decide)
    have s34 : S27 ef4 = 166 := gr_lab g29 qs (by decide)
    have e35 : w2 = G28 155 this 0 := gr_val g29 h3 hS (by decide) rfl
    have g36 : Gr [165, 166, 167, 168, 169] [(155, 0), (155, 1), (155, 2), (165, -1), (166, -1), (167, -1), (168, -1), (169, -1)] S G S27 G28 := gr_call g26 g29 rfl rfl
    refine r_ex hX hP 1 (pc' := 24) (st' := [(0, 1)]) (lo' := [(0, (2, this)), (1, (2, e))]) rfl ?_
    exact r_retZ hX hP rfl rfl (by omega) (by omega) (by omega) (by omega) ⟨g36, 1, rfl, (by omega), (by omega), (ci_ad1 ci tk0 g36 rfl rfl hS q30 (by have e := q31; omega)), q31⟩
  · skip
    have qs : S ef4 = 167 := by rw [ef4e]; exact q1
    have q2 : sz ≤ 22 := by rw [sz_e]; exact q2
    have q3 : ∀ i : Int, 0 ≤ i → i < sz → S (G 167 ef4 i) = 140 := by rw [sz_e, ef4e]; exact q3
    have g37 : Gr [165, 166, 167, 168, 169] [(155, 0), (155, 1), (155, 2), (165, -1), (166, -1), (167, -1), (168, -1), (169, -1)] S G S (up G 155 this 0 w2) := (gr_up (gr_refl [165, 166, 167, 168, 169] [(155, 0), (155, 1), (155, 2), (165, -1), (166, -1), (167, -1), (168, -1), (169, -1)] S G) rfl)
    refine r_callV gd hX hP rfl cv_Jx4a65c_131_155 hS (d' := 12) (mc' := 1) (ms' := 33) (as' := [(2, e), (2, ef4), (0, sz)]) (st := []) (by omega) (by omega) (by omega) rfl rfl (Nat.le_of_ble_eq_true rfl) (c_ad3_Ltr_2 E S (up G 155 this 0 w2) this e ef4 sz hS e_s qs (by omega) (by omega) sz_e ef4e q3) ?_
    rintro _ S38 G39 ⟨g40, rfl, q41, q42⟩
    have s43 : S38 this = 155 := gr_lab g40 hS (by decide)
    have s44 : S38 e = 140 := gr_lab g40 e_s (by decide)
    have s45 : S38 ef4 = 167 := gr_lab g40 qs (by decide)
    have e46 : w2 = G39 155 this 0 := gr_val g40 h3 hS (by decide) rfl
    have g47 : Gr [165, 166, 167, 168, 169] [(155, 0), (155, 1), (155, 2), (165, -1), (166, -1), (167, -1), (168, -1), (169, -1)] S G S38 G39 := gr_call g37 g40 rfl rfl
    refine r_ex hX hP 1 (pc' := 24) (st' := [(0, 1)]) (lo' := [(0, (2, this)), (1, (2, e))]) rfl ?_
    exact r_retZ hX hP rfl rfl (by omega) (by omega) (by omega) (by omega) ⟨g47, 1, rfl, (by omega), (by omega), (ci_ad1 ci tk0 g47 rfl rfl hS q41 (by have e := q42; omega)), q42⟩
  · skip
    have qs : S ef4 = 168 := by rw [ef4e]; exact q1
    have q2 : sz ≤ 33 := by rw [sz_e]; exact q2
    have q3 : ∀ i : Int, 0 ≤ i → i < sz → S (G 168 ef4 i) = 140 := by rw [sz_e, ef4e]; exact q3
    have g48 : Gr [165, 166, 167, 168, 169] [(155, 0), (155, 1), (155, 2), (165, -1), (166, -1), (167, -1), (168, -1), (169, -1)] S G S (up G 155 this 0 w2) := (gr_up (gr_refl [165, 166, 167, 168, 169] [(155, 0), (155, 1), (155, 2), (165, -1), (166, -1), (167, -1), (168, -1), (169, -1)] S G) rfl)
    refine r_callV gd hX hP rfl cv_Jx4a65c_131_155 hS (d' := 12) (mc' := 1) (ms' := 49) (as' := [(2, e), (2, ef4), (0, sz)]) (st := []) (by omega) (by omega) (by omega) rfl rfl (Nat.le_of_ble_eq_true rfl) (c_ad3_Ltr_3 E S (up G 155 this 0 w2) this e ef4 sz hS e_s qs (by omega) (by omega) sz_e ef4e q3) ?_
    rintro _ S49 G50 ⟨g51, rfl, q52, q53⟩
    have s54 : S49 this = 155 := gr_lab g51 hS (by decide)
    have s55 : S49 e = 140 := gr_lab g51 e_s (by decide)
    have s56 : S49 ef4 = 168 := gr_lab g51 qs (by decide)
    have e57 : w2 = G50 155 this 0 := gr_val g51 h3 hS (by decide) rfl
    have g58 : Gr [165, 166, 167, 168, 169] [(155, 0), (155, 1), (155, 2), (165, -1), (166, -1), (167, -1), (168, -1), (169, -1)] S G S49 G50 := gr_call g48 g51 rfl rfl
    refine r_ex hX hP 1 (pc' := 24) (st' := [(0, 1)]) (lo' := [(0, (2, this)), (1, (2, e))]) rfl ?_
    exact r_retZ hX hP rfl rfl (by omega) (by omega) (by omega) (by omega) ⟨g58, 1, rfl, (by omega), (by omega), (ci_ad1 ci tk0 g58 rfl rfl hS q52 (by have e := q53; omega)), q53⟩
  · skip
    have qs : S ef4 = 169 := by rw [ef4e]; exact q1
    have q2 : sz ≤ 49 := by rw [sz_e]; exact q2
    have q3 : ∀ i : Int, 0 ≤ i → i < sz → S (G 169 ef4 i) = 140 := by rw [sz_e, ef4e]; exact q3
    have g59 : Gr [165, 166, 167, 168, 169] [(155, 0), (155, 1), (155, 2), (165, -1), (166, -1), (167, -1), (168, -1), (169, -1)] S G S (up G 155 this 0 w2) := (gr_up (gr_refl [165, 166, 167, 168, 169] [(155, 0), (155, 1), (155, 2), (165, -1), (166, -1), (167, -1), (168, -1), (169, -1)] S G) rfl)
    refine r_callV gd hX hP rfl cv_Jx4a65c_131_155 hS (d' := 12) (mc' := 0) (ms' := 0) (as' := [(2, e), (2, ef4), (0, sz)]) (st := []) (by omega) (by omega) (by omega) rfl rfl (Nat.le_of_ble_eq_true rfl) (c_ad3_Ltr_4 E S (up G 155 this 0 w2) this e ef4 sz hS e_s qs (by omega) (by omega) sz_e ef4e q3) ?_
    rintro _ S60 G61 ⟨g62, rfl, q63, q64⟩
    have s65 : S60 this = 155 := gr_lab g62 hS (by decide)
    have s66 : S60 e = 140 := gr_lab g62 e_s (by decide)
    have s67 : S60 ef4 = 169 := gr_lab g62 qs (by decide)
    have e68 : w2 = G61 155 this 0 := gr_val g62 h3 hS (by decide) rfl
    have e69 : ef4 = G61 155 this 1 := gr_val g62 ef4e hS (by decide) rfl
    have g70 : Gr [165, 166, 167, 168, 169] [(155, 0), (155, 1), (155, 2), (165, -1), (166, -1), (167, -1), (168, -1), (169, -1)] S G S60 G61 := gr_call g59 g62 rfl rfl
    refine r_ex hX hP 1 (pc' := 24) (st' := [(0, 1)]) (lo' := [(0, (2, this)), (1, (2, e))]) rfl ?_
    exact r_retZ hX hP rfl rfl (by omega) (by omega) (by omega) (by omega) ⟨g70, 1, rfl, (by omega), (by omega), (ci_ad1 ci tk0 g70 rfl rfl hS q63 (by have e := q64; omega)), q64⟩
set_option maxRecDepth 100000 in
set_option maxHeartbeats 4000000 in
theorem c_add_Lev (E : En) (S : Sg) (G : Gh) (this : Int) (e : Int) (hS : S this = 156) (e_s : S e = 137) (sz : Int) (sz_e : sz = G 156 this 2) (pre0 : sz + 1 ≤ 16) (ci : CI E S G) : Calls E mJx4a65c_add_9ea2d [(2, this), (2, e)] S G 14 1 22 (fun r S' G' => Gr [170, 171, 172] [(156, 0), (156, 1), (156, 2), (170, -1), (171, -1), (172, -1)] S G S' G' ∧ ∃ z : Int, r = some (0, z) ∧ 1 ≤ z ∧ z ≤ 1 ∧ CI E S' G' ∧ G' 156 this 2 = sz + 1) := by
  refine calls_by [(0, (2, this)), (1, (2, e))] rfl rfl (Nat.le_of_ble_eq_true rfl) (fun X hX => ?_)
  have hP := hPJx4a65c_add_9ea2d
  refine r_peekI hX (tl_156 2 rfl (by decide)) hS (fun sz_o sz_oe sz_oa sz_ob => ?_)
  obtain rfl : sz = sz_o := sz_e.trans sz_oe.symm
  refine r_tk hX (fun tk0 => ?_)
  refine r_ex hX hP 2 (pc' := 2) (st' := [(2, this), (2, this)]) (lo' := [(0, (2, this)), (1, (2, e))]) rfl ?_
  refine r_getI hX hP rfl fl_Jx4a65c_63_156 hS (fun mf1 mf1e mf1a mf1b => ?_)
  refine r_ex hX hP 2 (pc' := 7) (st' := [(0, (mf1 + 1)), (2, this)]) (lo' := [(0, (2, this)), (1, (2, e))]) rfl ?_
  refine r_hvI hX (fun w2 w2a w2b w2e => ?_)
  refine r_putIK hX hP rfl fp_Jx4a65c_63_156 hS (by omega) (by omega) (fun h3 => ?_)
  refine r_ex hX hP 3 (pc' := 13) (st' := [(2, this), (2, e), (2, this)]) (lo' := [(0, (2, this)), (1, (2, e))]) rfl ?_
  refine r_get5 hX hP rfl fl_Jx4a65c_9_156 hS (fun ef4 ef4e ef4o => ?_)
  refine r_ex hX hP 1 (pc' := 17) (st' := [(2, this), (2, ef4), (2, e), (2, this)]) (lo' := [(0, (2, this)), (1, (2, e))]) rfl ?_
  refine r_getKI hX hP rfl fl_Jx4a65c_48_156 hS (x := sz) sz_e ?_
  rcases ci.2.2.2.1 this hS with ⟨q1, q2⟩ | ⟨q1, q2, q3⟩ | ⟨q1, q2, q3⟩ | ⟨q1, q2, q3⟩
  · skip
    obtain rfl : ef4 = Ad E 0 := ef4e.trans q1
    have q2 : sz = 0 := sz_e.trans q2
    have g5 : Gr [170, 171, 172] [(156, 0), (156, 1), (156, 2), (170, -1), (171, -1), (172, -1)] S G S (up G 156 this 0 w2) := (gr_up (gr_refl [170, 171, 172] [(156, 0), (156, 1), (156, 2), (170, -1), (171, -1), (172, -1)] S G) rfl)
    refine r_callV gd hX hP rfl cv_Jx4a65c_131_156 hS (d' := 12) (mc' := 1) (ms' := 10) (as' := [(2, e), (2, (Ad E 0)), (0, sz)]) (st := []) (by omega) (by omega) (by omega) rfl rfl (Nat.le_of_ble_eq_true rfl) (c_ad3_Lev_E E S (up G 156 this 0 w2) this e (Ad E 0) sz hS e_s (by omega) (by omega) sz_e rfl ef4e) ?_
    rintro _ S6 G7 ⟨g8, rfl, q9, q10⟩
    have s11 : S6 this = 156 := gr_lab g8 hS (by decide)
    have s12 : S6 e = 137 := gr_lab g8 e_s (by decide)
    have e13 : w2 = G7 156 this 0 := gr_val g8 h3 hS (by decide) rfl
    have g14 : Gr [170, 171, 172] [(156, 0), (156, 1), (156, 2), (170, -1), (171, -1), (172, -1)] S G S6 G7 := gr_call g5 g8 rfl rfl
    refine r_ex hX hP 1 (pc' := 24) (st' := [(0, 1)]) (lo' := [(0, (2, this)), (1, (2, e))]) rfl ?_
    exact r_retZ hX hP rfl rfl (by omega) (by omega) (by omega) (by omega) ⟨g14, 1, rfl, (by omega), (by omega), (ci_ad2 ci tk0 g14 rfl rfl hS q9 (by have e := q10; omega)), q10⟩
  · skip
    have qs : S ef4 = 170 := by rw [ef4e]; exact q1
    have q2 : sz ≤ 10 := by rw [sz_e]; exact q2
    have q3 : ∀ i : Int, 0 ≤ i → i < sz → S (G 170 ef4 i) = 137 := by rw [sz_e, ef4e]; exact q3
    have g15 : Gr [170, 171, 172] [(156, 0), (156, 1), (156, 2), (170, -1), (171, -1), (172, -1)] S G S (up G 156 this 0 w2) := (gr_up (gr_refl [170, 171, 172] [(156, 0), (156, 1), (156, 2), (170, -1), (171, -1), (172, -1)] S G) rfl)
    refine r_callV gd hX hP rfl cv_Jx4a65c_131_156 hS (d' := 12) (mc' := 1) (ms' := 15) (as' := [(2, e), (2, ef4), (0, sz)]) (st := []) (by omega) (by omega) (by omega) rfl rfl (Nat.le_of_ble_eq_true rfl) (c_ad3_Lev_0 E S (up G 156 this 0 w2) this e ef4 sz hS e_s qs (by omega) (by omega) sz_e ef4e q3) ?_
    rintro _ S16 G17 ⟨g18, rfl, q19, q20⟩
    have s21 : S16 this = 156 := gr_lab g18 hS (by decide)
    have s22 : S16 e = 137 := gr_lab g18 e_s (by decide)
    have s23 : S16 ef4 = 170 := gr_lab g18 qs (by decide)
    have e24 : w2 = G17 156 this 0 := gr_val g18 h3 hS (by decide) rfl
    have g25 : Gr [170, 171, 172] [(156, 0), (156, 1), (156, 2), (170, -1), (171, -1), (172, -1)] S G S16 G17 := gr_call g15 g18 rfl rfl
    refine r_ex hX hP 1 (pc' := 24) (st' := [(0, 1)]) (lo' := [(0, (2, this)), (1, (2, e))]) rfl ?_
    exact r_retZ hX hP rfl rfl (by omega) (by omega) (by omega) (by omega) ⟨g25, 1, rfl, (by omega), (by omega), (ci_ad2 ci tk0 g25 rfl rfl hS q19 (by have e := q20; omega)), q20⟩
  · skip
    have qs : S ef4 = 171 := by rw [ef4e]; exact q1
    have q2 : sz ≤ 15 := by rw [sz_e]; exact q2
    have q3 : ∀ i : Int, 0 ≤ i → i < sz → S (G 171 ef4 i) = 137 := by rw [sz_e, ef4e]; exact q3
    have g26 : Gr [170, 171, 172] [(156, 0), (156, 1), (156, 2), (170, -1), (171, -1), (172, -1)] S G S (up G 156 this 0 w2) := (gr_up (gr_refl [170, 171, 172] [(156, 0), (156, 1), (156, 2), (170, -1), (171, -1), (172, -1)] S G) rfl)
    refine r_callV gd hX hP rfl cv_Jx4a65c_131_156 hS (d' := 12) (mc' := 1) (ms' := 22) (as' := [(2, e), (2, ef4), (0, sz)]) (st := []) (by omega) (by omega) (by omega) rfl rfl (Nat.le_of_ble_eq_true rfl) (c_ad3_Lev_1 E S (up G 156 this 0 w2) this e ef4 sz hS e_s qs (by omega) (by omega) sz_e ef4e q3) ?_
    rintro _ S27 G28 ⟨g29, rfl, q30, q31⟩
    have s32 : S27 this = 156 := gr_lab g29 hS (by decide)
    have s33 : S27 e = 137 := gr_lab g29 e_s (by decide)
    have s34 : S27 ef4 = 171 := gr_lab g29 qs (by decide)
    have e35 : w2 = G28 156 this 0 := gr_val g29 h3 hS (by decide) rfl
    have g36 : Gr [170, 171, 172] [(156, 0), (156, 1), (156, 2), (170, -1), (171, -1), (172, -1)] S G S27 G28 := gr_call g26 g29 rfl rfl
    refine r_ex hX hP 1 (pc' := 24) (st' := [(0, 1)]) (lo' := [(0, (2, this)), (1, (2, e))]) rfl ?_
    exact r_retZ hX hP rfl rfl (by omega) (by omega) (by omega) (by omega) ⟨g36, 1, rfl, (by omega), (by omega), (ci_ad2 ci tk0 g36 rfl rfl hS q30 (by have e := q31; omega)), q31⟩
  · skip
    have qs : S ef4 = 172 := by rw [ef4e]; exact q1
    have q2 : sz ≤ 22 := by rw [sz_e]; exact q2
    have q3 : ∀ i : Int, 0 ≤ i → i < sz → S (G 172 ef4 i) = 137 := by rw [sz_e, ef4e]; exact q3
    have g37 : Gr [170, 171, 172] [(156, 0), (156, 1), (156, 2), (170, -1), (171, -1), (172, -1)] S G S (up G 156 this 0 w2) := (gr_up (gr_refl [170, 171, 172] [(156, 0), (156, 1), (156, 2), (170, -1), (171, -1), (172, -1)] S G) rfl)
    refine r_callV gd hX hP rfl cv_Jx4a65c_131_156 hS (d' := 12) (mc' := 0) (ms' := 0) (as' := [(2, e), (2, ef4), (0, sz)]) (st := []) (by omega) (by omega) (by omega) rfl rfl (Nat.le_of_ble_eq_true rfl) (c_ad3_Lev_2 E S (up G 156 this 0 w2) this e ef4 sz hS e_s qs (by omega) (by omega) sz_e ef4e q3) ?_
    rintro _ S38 G39 ⟨g40, rfl, q41, q42⟩
    have s43 : S38 this = 156 := gr_lab g40 hS (by decide)
    have s44 : S38 e = 137 := gr_lab g40 e_s (by decide)
    have s45 : S38 ef4 = 172 := gr_lab g40 qs (by decide)
    have e46 : w2 = G39 156 this 0 := gr_val g40 h3 hS (by decide) rfl
    have e47 : ef4 = G39 156 this 1 := gr_val g40 ef4e hS (by decide) rfl
    have g48 : Gr [170, 171, 172] [(156, 0), (156, 1), (156, 2), (170, -1), (171, -1), (172, -1)] S G S38 G39 := gr_call g37 g40 rfl rfl
    refine r_ex hX hP 1 (pc' := 24) (st' := [(0, 1)]) (lo' := [(0, (2, this)), (1, (2, e))]) rfl ?_
    exact r_retZ hX hP rfl rfl (by omega) (by omega) (by omega) (by omega) ⟨g48, 1, rfl, (by omega), (by omega), (ci_ad2 ci tk0 g48 rfl rfl hS q41 (by have e := q42; omega)), q42⟩
set_option maxRecDepth 100000 in
set_option maxHeartbeats 4000000 in
theorem c_add_Lpi (E : En) (S : Sg) (G : Gh) (this : Int) (e : Int) (hS : S this = 157) (e_s : S e = 138) (sz : Int) (sz_e : sz = G 157 this 2) (pre0 : sz + 1 ≤ 60) (ci : CI E S G) : Calls E mJx4a65c_add_9ea2d [(2, this), (2, e)] S G 14 1 73 (fun r S' G' => Gr [173, 174, 175, 176, 177, 178] [(157, 0), (157, 1), (157, 2), (173, -1), (174, -1), (175, -1), (176, -1), (177, -1), (178, -1)] S G S' G' ∧ ∃ z : Int, r = some (0, z) ∧ 1 ≤ z ∧ z ≤ 1 ∧ CI E S' G' ∧ G' 157 this 2 = sz + 1) := by
  refine calls_by [(0, (2, this)), (1, (2, e))] rfl rfl (Nat.le_of_ble_eq_true rfl) (fun X hX => ?_)
  have hP := hPJx4a65c_add_9ea2d
  refine r_peekI hX (tl_157 2 rfl (by decide)) hS (fun sz_o sz_oe sz_oa sz_ob => ?_)
  obtain rfl : sz = sz_o := sz_e.trans sz_oe.symm
  refine r_tk hX (fun tk0 => ?_)
  refine r_ex hX hP 2 (pc' := 2) (st' := [(2, this), (2, this)]) (lo' := [(0, (2, this)), (1, (2, e))]) rfl ?_
  refine r_getI hX hP rfl fl_Jx4a65c_63_157 hS (fun mf1 mf1e mf1a mf1b => ?_)
  refine r_ex hX hP 2 (pc' := 7) (st' := [(0, (mf1 + 1)), (2, this)]) (lo' := [(0, (2, this)), (1, (2, e))]) rfl ?_
  refine r_hvI hX (fun w2 w2a w2b w2e => ?_)
  refine r_putIK hX hP rfl fp_Jx4a65c_63_157 hS (by omega) (by omega) (fun h3 => ?_)
  refine r_ex hX hP 3 (pc' := 13) (st' := [(2, this), (2, e), (2, this)]) (lo' := [(0, (2, this)), (1, (2, e))]) rfl ?_
  refine r_get5 hX hP rfl fl_Jx4a65c_9_157 hS (fun ef4 ef4e ef4o => ?_)
  refine r_ex hX hP 1 (pc' := 17) (st' := [(2, this), (2, ef4), (2, e), (2, this)]) (lo' := [(0, (2, this)), (1, (2, e))]) rfl ?_
  refine r_getKI hX hP rfl fl_Jx4a65c_48_157 hS (x := sz) sz_e ?_
  rcases ci.2.2.2.2.1 this hS with ⟨q1, q2⟩ | ⟨q1, q2, q3⟩ | ⟨q1, q2, q3⟩ | ⟨q1, q2, q3⟩ | ⟨q1, q2, q3⟩ | ⟨q1, q2, q3⟩ | ⟨q1, q2, q3⟩
  · skip
    obtain rfl : ef4 = Ad E 0 := ef4e.trans q1
    have q2 : sz = 0 := sz_e.trans q2
    have g5 : Gr [173, 174, 175, 176, 177, 178] [(157, 0), (157, 1), (157, 2), (173, -1), (174, -1), (175, -1), (176, -1), (177, -1), (178, -1)] S G S (up G 157 this 0 w2) := (gr_up (gr_refl [173, 174, 175, 176, 177, 178] [(157, 0), (157, 1), (157, 2), (173, -1), (174, -1), (175, -1), (176, -1), (177, -1), (178, -1)] S G) rfl)
    refine r_callV gd hX hP rfl cv_Jx4a65c_131_157 hS (d' := 12) (mc' := 1) (ms' := 10) (as' := [(2, e), (2, (Ad E 0)), (0, sz)]) (st := []) (by omega) (by omega) (by omega) rfl rfl (Nat.le_of_ble_eq_true rfl) (c_ad3_Lpi_E E S (up G 157 this 0 w2) this e (Ad E 0) sz hS e_s (by omega) (by omega) sz_e rfl ef4e) ?_
    rintro _ S6 G7 ⟨g8, rfl, q9, q10⟩
    have s11 : S6 this = 157 := gr_lab g8 hS (by decide)
    have s12 : S6 e = 138 := gr_lab g8 e_s (by decide)
    have e13 : w2 = G7 157 this 0 := gr_val g8 h3 hS (by decide) rfl
    have g14 : Gr [173, 174, 175, 176, 177, 178] [(157, 0), (157, 1), (157, 2), (173, -1), (174, -1), (175, -1), (176, -1), (177, -1), (178, -1)] S G S6 G7 := gr_call g5 g8 rfl rfl
    refine r_ex hX hP 1 (pc' := 24) (st' := [(0, 1)]) (lo' := [(0, (2, this)), (1, (2, e))]) rfl ?_
    exact r_retZ hX hP rfl rfl (by omega) (by omega) (by omega) (by omega) ⟨g14, 1, rfl, (by omega), (by omega), (ci_ad3 ci tk0 g14 rfl rfl hS q9 (by have e := q10; omega)), q10⟩
  · skip
    have qs : S ef4 = 173 := by rw [ef4e]; exact q1
    have q2 : sz ≤ 10 := by rw [sz_e]; exact q2
    have q3 : ∀ i : Int, 0 ≤ i → i < sz → S (G 173 ef4 i) = 138 := by rw [sz_e, ef4e]; exact q3
    have g15 : Gr [173, 174, 175, 176, 177, 178] [(157, 0), (157, 1), (157, 2), (173, -1), (174, -1), (175, -1), (176, -1), (177, -1), (178, -1)] S G S (up G 157 this 0 w2) := (gr_up (gr_refl [173, 174, 175, 176, 177, 178] [(157, 0), (157, 1), (157, 2), (173, -1), (174, -1), (175, -1), (176, -1), (177, -1), (178, -1)] S G) rfl)
    refine r_callV gd hX hP rfl cv_Jx4a65c_131_157 hS (d' := 12) (mc' := 1) (ms' := 15) (as' := [(2, e), (2, ef4), (0, sz)]) (st := []) (by omega) (by omega) (by omega) rfl rfl (Nat.le_of_ble_eq_true rfl) (c_ad3_Lpi_0 E S (up G 157 this 0 w2) this e ef4 sz hS e_s qs (by omega) (by omega) sz_e ef4e q3) ?_
    rintro _ S16 G17 ⟨g18, rfl, q19, q20⟩
    have s21 : S16 this = 157 := gr_lab g18 hS (by decide)
    have s22 : S16 e = 138 := gr_lab g18 e_s (by decide)
    have s23 : S16 ef4 = 173 := gr_lab g18 qs (by decide)
    have e24 : w2 = G17 157 this 0 := gr_val g18 h3 hS (by decide) rfl
    have g25 : Gr [173, 174, 175, 176, 177, 178] [(157, 0), (157, 1), (157, 2), (173, -1), (174, -1), (175, -1), (176, -1), (177, -1), (178, -1)] S G S16 G17 := gr_call g15 g18 rfl rfl
    refine r_ex hX hP 1 (pc' := 24) (st' := [(0, 1)]) (lo' := [(0, (2, this)), (1, (2, e))]) rfl ?_
    exact r_retZ hX hP rfl rfl (by omega) (by omega) (by omega) (by omega) ⟨g25, 1, rfl, (by omega), (by omega), (ci_ad3 ci tk0 g25 rfl rfl hS q19 (by have e := q20; omega)), q20⟩
  · skip
    have qs : S ef4 = 174 := by rw [ef4e]; exact q1
    have q2 : sz ≤ 15 := by rw [sz_e]; exact q2
    have q3 : ∀ i : Int, 0 ≤ i → i < sz → S (G 174 ef4 i) = 138 := by rw [sz_e, ef4e]; exact q3
    have g26 : Gr [173, 174, 175, 176, 177, 178] [(157, 0), (157, 1), (157, 2), (173, -1), (174, -1), (175, -1), (176, -1), (177, -1), (178, -1)] S G S (up G 157 this 0 w2) := (gr_up (gr_refl [173, 174, 175, 176, 177, 178] [(157, 0), (157, 1), (157, 2), (173, -1), (174, -1), (175, -1), (176, -1), (177, -1), (178, -1)] S G) rfl)
    refine r_callV gd hX hP rfl cv_Jx4a65c_131_157 hS (d' := 12) (mc' := 1) (ms' := 22) (as' := [(2, e), (2, ef4), (0, sz)]) (st := []) (by omega) (by omega) (by omega) rfl rfl (Nat.le_of_ble_eq_true rfl) (c_ad3_Lpi_1 E S (up G 157 this 0 w2) this e ef4 sz hS e_s qs (by omega) (by omega) sz_e ef4e q3) ?_
    rintro _ S27 G28 ⟨g29, rfl, q30, q31⟩
    have s32 : S27 this = 157 := gr_lab g29 hS (by decide)
    have s33 : S27 e = 138 := gr_lab g29 e_s (by decide)
    have s34 : S27 ef4 = 174 := gr_lab g29 qs (by decide)
    have e35 : w2 = G28 157 this 0 := gr_val g29 h3 hS (by decide) rfl
    have g36 : Gr [173, 174, 175, 176, 177, 178] [(157, 0), (157, 1), (157, 2), (173, -1), (174, -1), (175, -1), (176, -1), (177, -1), (178, -1)] S G S27 G28 := gr_call g26 g29 rfl rfl
    refine r_ex hX hP 1 (pc' := 24) (st' := [(0, 1)]) (lo' := [(0, (2, this)), (1, (2, e))]) rfl ?_
    exact r_retZ hX hP rfl rfl (by omega) (by omega) (by omega) (by omega) ⟨g36, 1, rfl, (by omega), (by omega), (ci_ad3 ci tk0 g36 rfl rfl hS q30 (by have e := q31; omega)), q31⟩
  · skip
    have qs : S ef4 = 175 := by rw [ef4e]; exact q1
    have q2 : sz ≤ 22 := by rw [sz_e]; exact q2
    have q3 : ∀ i : Int, 0 ≤ i → i < sz → S (G 175 ef4 i) = 138 := by rw [sz_e, ef4e]; exact q3
    have g37 : Gr [173, 174, 175, 176, 177, 178] [(157, 0), (157, 1), (157, 2), (173, -1), (174, -1), (175, -1), (176, -1), (177, -1), (178, -1)] S G S (up G 157 this 0 w2) := (gr_up (gr_refl [173, 174, 175, 176, 177, 178] [(157, 0), (157, 1), (157, 2), (173, -1), (174, -1), (175, -1), (176, -1), (177, -1), (178, -1)] S G) rfl)
    refine r_callV gd hX hP rfl cv_Jx4a65c_131_157 hS (d' := 12) (mc' := 1) (ms' := 33) (as' := [(2, e), (2, ef4), (0, sz)]) (st := []) (by omega) (by omega) (by omega) rfl rfl (Nat.le_of_ble_eq_true rfl) (c_ad3_Lpi_2 E S (up G 157 this 0 w2) this e ef4 sz hS e_s qs (by omega) (by omega) sz_e ef4e q3) ?_
    rintro _ S38 G39 ⟨g40, rfl, q41, q42⟩
    have s43 : S38 this = 157 := gr_lab g40 hS (by decide)
    have s44 : S38 e = 138 := gr_lab g40 e_s (by decide)
    have s45 : S38 ef4 = 175 := gr_lab g40 qs (by decide)
    have e46 : w2 = G39 157 this 0 := gr_val g40 h3 hS (by decide) rfl
    have g47 : Gr [173, 174, 175, 176, 177, 178] [(157, 0), (157, 1), (157, 2), (173, -1), (174, -1), (175, -1), (176, -1), (177, -1), (178, -1)] S G S38 G39 := gr_call g37 g40 rfl rfl
    refine r_ex hX hP 1 (pc' := 24) (st' := [(0, 1)]) (lo' := [(0, (2, this)), (1, (2, e))]) rfl ?_
    exact r_retZ hX hP rfl rfl (by omega) (by omega) (by omega) (by omega) ⟨g47, 1, rfl, (by omega), (by omega), (ci_ad3 ci tk0 g47 rfl rfl hS q41 (by have e := q42; omega)), q42⟩
  · skip
    have qs : S ef4 = 176 := by rw [ef4e]; exact q1
    have q2 : sz ≤ 33 := by rw [sz_e]; exact q2
    have q3 : ∀ i : Int, 0 ≤ i → i < sz → S (G 176 ef4 i) = 138 := by rw [sz_e, ef4e]; exact q3
    have g48 : Gr [173, 174, 175, 176, 177, 178] [(157, 0), (157, 1), (157, 2), (173, -1), (174, -1), (175, -1), (176, -1), (177, -1), (178, -1)] S G S (up G 157 this 0 w2) := (gr_up (gr_refl [173, 174, 175, 176, 177, 178] [(157, 0), (157, 1), (157, 2), (173, -1), (174, -1), (175, -1), (176, -1), (177, -1), (178, -1)] S G) rfl)
    refine r_callV gd hX hP rfl cv_Jx4a65c_131_157 hS (d' := 12) (mc' := 1) (ms' := 49) (as' := [(2, e), (2, ef4), (0, sz)]) (st := []) (by omega) (by omega) (by omega) rfl rfl (Nat.le_of_ble_eq_true rfl) (c_ad3_Lpi_3 E S (up G 157 this 0 w2) this e ef4 sz hS e_s qs (by omega) (by omega) sz_e ef4e q3) ?_
    rintro _ S49 G50 ⟨g51, rfl, q52, q53⟩
    have s54 : S49 this = 157 := gr_lab g51 hS (by decide)
    have s55 : S49 e = 138 := gr_lab g51 e_s (by decide)
    have s56 : S49 ef4 = 176 := gr_lab g51 qs (by decide)
    have e57 : w2 = G50 157 this 0 := gr_val g51 h3 hS (by decide) rfl
    have g58 : Gr [173, 174, 175, 176, 177, 178] [(157, 0), (157, 1), (157, 2), (173, -1), (174, -1), (175, -1), (176, -1), (177, -1), (178, -1)] S G S49 G50 := gr_call g48 g51 rfl rfl
    refine r_ex hX hP 1 (pc' := 24) (st' := [(0, 1)]) (lo' := [(0, (2, this)), (1, (2, e))]) rfl ?_
    exact r_retZ hX hP rfl rfl (by omega) (by omega) (by omega) (by omega) ⟨g58, 1, rfl, (by omega), (by omega), (ci_ad3 ci tk0 g58 rfl rfl hS q52 (by have e := q53; omega)), q53⟩
  · skip
    have qs : S ef4 = 177 := by rw [ef4e]; exact q1
    have q2 : sz ≤ 49 := by rw [sz_e]; exact q2
    have q3 : ∀ i : Int, 0 ≤ i → i < sz → S (G 177 ef4 i) = 138 := by rw [sz_e, ef4e]; exact q3
    have g59 : Gr [173, 174, 175, 176, 177, 178] [(157, 0), (157, 1), (157, 2), (173, -1), (174, -1), (175, -1), (176, -1), (177, -1), (178, -1)] S G S (up G 157 this 0 w2) := (gr_up (gr_refl [173, 174, 175, 176, 177, 178] [(157, 0), (157, 1), (157, 2), (173, -1), (174, -1), (175, -1), (176, -1), (177, -1), (178, -1)] S G) rfl)
    refine r_callV gd hX hP rfl cv_Jx4a65c_131_157 hS (d' := 12) (mc' := 1) (ms' := 73) (as' := [(2, e), (2, ef4), (0, sz)]) (st := []) (by omega) (by omega) (by omega) rfl rfl (Nat.le_of_ble_eq_true rfl) (c_ad3_Lpi_4 E S (up G 157 this 0 w2) this e ef4 sz hS e_s qs (by omega) (by omega) sz_e ef4e q3) ?_
    rintro _ S60 G61 ⟨g62, rfl, q63, q64⟩
    have s65 : S60 this = 157 := gr_lab g62 hS (by decide)
    have s66 : S60 e = 138 := gr_lab g62 e_s (by decide)
    have s67 : S60 ef4 = 177 := gr_lab g62 qs (by decide)
    have e68 : w2 = G61 157 this 0 := gr_val g62 h3 hS (by decide) rfl
    have g69 : Gr [173, 174, 175, 176, 177, 178] [(157, 0), (157, 1), (157, 2), (173, -1), (174, -1), (175, -1), (176, -1), (177, -1), (178, -1)] S G S60 G61 := gr_call g59 g62 rfl rfl
    refine r_ex hX hP 1 (pc' := 24) (st' := [(0, 1)]) (lo' := [(0, (2, this)), (1, (2, e))]) rfl ?_
    exact r_retZ hX hP rfl rfl (by omega) (by omega) (by omega) (by omega) ⟨g69, 1, rfl, (by omega), (by omega), (ci_ad3 ci tk0 g69 rfl rfl hS q63 (by have e := q64; omega)), q64⟩
  · skip
    have qs : S ef4 = 178 := by rw [ef4e]; exact q1
    have q2 : sz ≤ 73 := by rw [sz_e]; exact q2
    have q3 : ∀ i : Int, 0 ≤ i → i < sz → S (G 178 ef4 i) = 138 := by rw [sz_e, ef4e]; exact q3
    have g70 : Gr [173, 174, 175, 176, 177, 178] [(157, 0), (157, 1), (157, 2), (173, -1), (174, -1), (175, -1), (176, -1), (177, -1), (178, -1)] S G S (up G 157 this 0 w2) := (gr_up (gr_refl [173, 174, 175, 176, 177, 178] [(157, 0), (157, 1), (157, 2), (173, -1), (174, -1), (175, -1), (176, -1), (177, -1), (178, -1)] S G) rfl)
    refine r_callV gd hX hP rfl cv_Jx4a65c_131_157 hS (d' := 12) (mc' := 0) (ms' := 0) (as' := [(2, e), (2, ef4), (0, sz)]) (st := []) (by omega) (by omega) (by omega) rfl rfl (Nat.le_of_ble_eq_true rfl) (c_ad3_Lpi_5 E S (up G 157 this 0 w2) this e ef4 sz hS e_s qs (by omega) (by omega) sz_e ef4e q3) ?_
    rintro _ S71 G72 ⟨g73, rfl, q74, q75⟩
    have s76 : S71 this = 157 := gr_lab g73 hS (by decide)
    have s77 : S71 e = 138 := gr_lab g73 e_s (by decide)
    have s78 : S71 ef4 = 178 := gr_lab g73 qs (by decide)
    have e79 : w2 = G72 157 this 0 := gr_val g73 h3 hS (by decide) rfl
    have e80 : ef4 = G72 157 this 1 := gr_val g73 ef4e hS (by decide) rfl
    have g81 : Gr [173, 174, 175, 176, 177, 178] [(157, 0), (157, 1), (157, 2), (173, -1), (174, -1), (175, -1), (176, -1), (177, -1), (178, -1)] S G S71 G72 := gr_call g70 g73 rfl rfl
    refine r_ex hX hP 1 (pc' := 24) (st' := [(0, 1)]) (lo' := [(0, (2, this)), (1, (2, e))]) rfl ?_
    exact r_retZ hX hP rfl rfl (by omega) (by omega) (by omega) (by omega) ⟨g81, 1, rfl, (by omega), (by omega), (ci_ad3 ci tk0 g81 rfl rfl hS q74 (by have e := q75; omega)), q75⟩
set_option maxRecDepth 100000 in
set_option maxHeartbeats 4000000 in
theorem c_add_Lop (E : En) (S : Sg) (G : Gh) (this : Int) (e : Int) (hS : S this = 158) (e_s : S e = 141) (sz : Int) (sz_e : sz = G 158 this 2) (pre0 : sz + 1 ≤ 10) (ci : CI E S G) : Calls E mJx4a65c_add_9ea2d [(2, this), (2, e)] S G 14 1 10 (fun r S' G' => Gr [179] [(158, 0), (158, 1), (158, 2), (179, -1)] S G S' G' ∧ ∃ z : Int, r = some (0, z) ∧ 1 ≤ z ∧ z ≤ 1 ∧ CI E S' G' ∧ G' 158 this 2 = sz + 1) := by
  refine calls_by [(0, (2, this)), (1, (2, e))] rfl rfl (Nat.le_of_ble_eq_true rfl) (fun X hX => ?_)
  have hP := hPJx4a65c_add_9ea2d
  refine r_peekI hX (tl_158 2 rfl (by decide)) hS (fun sz_o sz_oe sz_oa sz_ob => ?_)
  obtain rfl : sz = sz_o := sz_e.trans sz_oe.symm
  refine r_tk hX (fun tk0 => ?_)
  refine r_ex hX hP 2 (pc' := 2) (st' := [(2, this), (2, this)]) (lo' := [(0, (2, this)), (1, (2, e))]) rfl ?_
  refine r_getI hX hP rfl fl_Jx4a65c_63_158 hS (fun mf1 mf1e mf1a mf1b => ?_)
  refine r_ex hX hP 2 (pc' := 7) (st' := [(0, (mf1 + 1)), (2, this)]) (lo' := [(0, (2, this)), (1, (2, e))]) rfl ?_
  refine r_hvI hX (fun w2 w2a w2b w2e => ?_)
  refine r_putIK hX hP rfl fp_Jx4a65c_63_158 hS (by omega) (by omega) (fun h3 => ?_)
  refine r_ex hX hP 3 (pc' := 13) (st' := [(2, this), (2, e), (2, this)]) (lo' := [(0, (2, this)), (1, (2, e))]) rfl ?_
  refine r_get5 hX hP rfl fl_Jx4a65c_9_158 hS (fun ef4 ef4e ef4o => ?_)
  refine r_ex hX hP 1 (pc' := 17) (st' := [(2, this), (2, ef4), (2, e), (2, this)]) (lo' := [(0, (2, this)), (1, (2, e))]) rfl ?_
  refine r_getKI hX hP rfl fl_Jx4a65c_48_158 hS (x := sz) sz_e ?_
  rcases ci.2.2.2.2.2.1 this hS with ⟨q1, q2⟩ | ⟨q1, q2, q3⟩
  · skip
    obtain rfl : ef4 = Ad E 0 := ef4e.trans q1
    have q2 : sz = 0 := sz_e.trans q2
    have g5 : Gr [179] [(158, 0), (158, 1), (158, 2), (179, -1)] S G S (up G 158 this 0 w2) := (gr_up (gr_refl [179] [(158, 0), (158, 1), (158, 2), (179, -1)] S G) rfl)
    refine r_callV gd hX hP rfl cv_Jx4a65c_131_158 hS (d' := 12) (mc' := 1) (ms' := 10) (as' := [(2, e), (2, (Ad E 0)), (0, sz)]) (st := []) (by omega) (by omega) (by omega) rfl rfl (Nat.le_of_ble_eq_true rfl) (c_ad3_Lop_E E S (up G 158 this 0 w2) this e (Ad E 0) sz hS e_s (by omega) (by omega) sz_e rfl ef4e) ?_
    rintro _ S6 G7 ⟨g8, rfl, q9, q10⟩
    have s11 : S6 this = 158 := gr_lab g8 hS (by decide)
    have s12 : S6 e = 141 := gr_lab g8 e_s (by decide)
    have e13 : w2 = G7 158 this 0 := gr_val g8 h3 hS (by decide) rfl
    have g14 : Gr [179] [(158, 0), (158, 1), (158, 2), (179, -1)] S G S6 G7 := gr_call g5 g8 rfl rfl
    refine r_ex hX hP 1 (pc' := 24) (st' := [(0, 1)]) (lo' := [(0, (2, this)), (1, (2, e))]) rfl ?_
    exact r_retZ hX hP rfl rfl (by omega) (by omega) (by omega) (by omega) ⟨g14, 1, rfl, (by omega), (by omega), (ci_ad4 ci tk0 g14 rfl rfl hS q9 (by have e := q10; omega)), q10⟩
  · skip
    have qs : S ef4 = 179 := by rw [ef4e]; exact q1
    have q2 : sz ≤ 10 := by rw [sz_e]; exact q2
    have q3 : ∀ i : Int, 0 ≤ i → i < sz → S (G 179 ef4 i) = 141 := by rw [sz_e, ef4e]; exact q3
    have g15 : Gr [179] [(158, 0), (158, 1), (158, 2), (179, -1)] S G S (up G 158 this 0 w2) := (gr_up (gr_refl [179] [(158, 0), (158, 1), (158, 2), (179, -1)] S G) rfl)
    refine r_callV gd hX hP rfl cv_Jx4a65c_131_158 hS (d' := 12) (mc' := 0) (ms' := 0) (as' := [(2, e), (2, ef4), (0, sz)]) (st := []) (by omega) (by omega) (by omega) rfl rfl (Nat.le_of_ble_eq_true rfl) (c_ad3_Lop_0 E S (up G 158 this 0 w2) this e ef4 sz hS e_s qs (by omega) (by omega) sz_e ef4e q3) ?_
    rintro _ S16 G17 ⟨g18, rfl, q19, q20⟩
    have s21 : S16 this = 158 := gr_lab g18 hS (by decide)
    have s22 : S16 e = 141 := gr_lab g18 e_s (by decide)
    have s23 : S16 ef4 = 179 := gr_lab g18 qs (by decide)
    have e24 : w2 = G17 158 this 0 := gr_val g18 h3 hS (by decide) rfl
    have e25 : ef4 = G17 158 this 1 := gr_val g18 ef4e hS (by decide) rfl
    have g26 : Gr [179] [(158, 0), (158, 1), (158, 2), (179, -1)] S G S16 G17 := gr_call g15 g18 rfl rfl
    refine r_ex hX hP 1 (pc' := 24) (st' := [(0, 1)]) (lo' := [(0, (2, this)), (1, (2, e))]) rfl ?_
    exact r_retZ hX hP rfl rfl (by omega) (by omega) (by omega) (by omega) ⟨g26, 1, rfl, (by omega), (by omega), (ci_ad4 ci tk0 g26 rfl rfl hS q19 (by have e := q20; omega)), q20⟩
set_option maxRecDepth 100000 in
set_option maxHeartbeats 4000000 in
theorem c_add_Lna (E : En) (S : Sg) (G : Gh) (this : Int) (e : Int) (hS : S this = 159) (e_s : S e = 141) (sz : Int) (sz_e : sz = G 159 this 2) (pre0 : sz + 1 ≤ 60) (ci : CI E S G) : Calls E mJx4a65c_add_9ea2d [(2, this), (2, e)] S G 14 1 73 (fun r S' G' => Gr [180, 181, 182, 183, 184, 185] [(159, 0), (159, 1), (159, 2), (180, -1), (181, -1), (182, -1), (183, -1), (184, -1), (185, -1)] S G S' G' ∧ ∃ z : Int, r = some (0, z) ∧ 1 ≤ z ∧ z ≤ 1 ∧ CI E S' G' ∧ G' 159 this 2 = sz + 1) := by
  refine calls_by [(0, (2, this)), (1, (2, e))] rfl rfl (Nat.le_of_ble_eq_true rfl) (fun X hX => ?_)
  have hP := hPJx4a65c_add_9ea2d
  refine r_peekI hX (tl_159 2 rfl (by decide)) hS (fun sz_o sz_oe sz_oa sz_ob => ?_)
  obtain rfl : sz = sz_o := sz_e.trans sz_oe.symm
  refine r_tk hX (fun tk0 => ?_)
  refine r_ex hX hP 2 (pc' := 2) (st' := [(2, this), (2, this)]) (lo' := [(0, (2, this)), (1, (2, e))]) rfl ?_
  refine r_getI hX hP rfl fl_Jx4a65c_63_159 hS (fun mf1 mf1e mf1a mf1b => ?_)
  refine r_ex hX hP 2 (pc' := 7) (st' := [(0, (mf1 + 1)), (2, this)]) (lo' := [(0, (2, this)), (1, (2, e))]) rfl ?_
  refine r_hvI hX (fun w2 w2a w2b w2e => ?_)
  refine r_putIK hX hP rfl fp_Jx4a65c_63_159 hS (by omega) (by omega) (fun h3 => ?_)
  refine r_ex hX hP 3 (pc' := 13) (st' := [(2, this), (2, e), (2, this)]) (lo' := [(0, (2, this)), (1, (2, e))]) rfl ?_
  refine r_get5 hX hP rfl fl_Jx4a65c_9_159 hS (fun ef4 ef4e ef4o => ?_)
  refine r_ex hX hP 1 (pc' := 17) (st' := [(2, this), (2, ef4), (2, e), (2, this)]) (lo' := [(0, (2, this)), (1, (2, e))]) rfl ?_
  refine r_getKI hX hP rfl fl_Jx4a65c_48_159 hS (x := sz) sz_e ?_
  rcases ci.2.2.2.2.2.2.1 this hS with ⟨q1, q2⟩ | ⟨q1, q2, q3⟩ | ⟨q1, q2, q3⟩ | ⟨q1, q2, q3⟩ | ⟨q1, q2, q3⟩ | ⟨q1, q2, q3⟩ | ⟨q1, q2, q3⟩
  · skip
    obtain rfl : ef4 = Ad E 0 := ef4e.trans q1
    have q2 : sz = 0 := sz_e.trans q2
    have g5 : Gr [180, 181, 182, 183, 184, 185] [(159, 0), (159, 1), (159, 2), (180, -1), (181, -1), (182, -1), (183, -1), (184, -1), (185, -1)] S G S (up G 159 this 0 w2) := (gr_up (gr_refl [180, 181, 182, 183, 184, 185] [(159, 0), (159, 1), (159, 2), (180, -1), (181, -1), (182, -1), (183, -1), (184, -1), (185, -1)] S G) rfl)
    refine r_callV gd hX hP rfl cv_Jx4a65c_131_159 hS (d' := 12) (mc' := 1) (ms' := 10) (as' := [(2, e), (2, (Ad E 0)), (0, sz)]) (st := []) (by omega) (by omega) (by omega) rfl rfl (Nat.le_of_ble_eq_true rfl) (c_ad3_Lna_E E S (up G 159 this 0 w2) this e (Ad E 0) sz hS e_s (by omega) (by omega) sz_e rfl ef4e) ?_
    rintro _ S6 G7 ⟨g8, rfl, q9, q10⟩
    have s11 : S6 this = 159 := gr_lab g8 hS (by decide)
    have s12 : S6 e = 141 := gr_lab g8 e_s (by decide)
    have e13 : w2 = G7 159 this 0 := gr_val g8 h3 hS (by decide) rfl
    have g14 : Gr [180, 181, 182, 183, 184, 185] [(159, 0), (159, 1), (159, 2), (180, -1), (181, -1), (182, -1), (183, -1), (184, -1), (185, -1)] S G S6 G7 := gr_call g5 g8 rfl rfl
    refine r_ex hX hP 1 (pc' := 24) (st' := [(0, 1)]) (lo' := [(0, (2, this)), (1, (2, e))]) rfl ?_
    exact r_retZ hX hP rfl rfl (by omega) (by omega) (by omega) (by omega) ⟨g14, 1, rfl, (by omega), (by omega), (ci_ad5 ci tk0 g14 rfl rfl hS q9 (by have e := q10; omega)), q10⟩
  · skip
    have qs : S ef4 = 180 := by rw [ef4e]; exact q1
    have q2 : sz ≤ 10 := by rw [sz_e]; exact q2
    have q3 : ∀ i : Int, 0 ≤ i → i < sz → S (G 180 ef4 i) = 141 := by rw [sz_e, ef4e]; exact q3
    have g15 : Gr [180, 181, 182, 183, 184, 185] [(159, 0), (159, 1), (159, 2), (180, -1), (181, -1), (182, -1), (183, -1), (184, -1), (185, -1)] S G S (up G 159 this 0 w2) := (gr_up (gr_refl [180, 181, 182, 183, 184, 185] [(159, 0), (159, 1), (159, 2), (180, -1), (181, -1), (182, -1), (183, -1), (184, -1), (185, -1)] S G) rfl)
    refine r_callV gd hX hP rfl cv_Jx4a65c_131_159 hS (d' := 12) (mc' := 1) (ms' := 15) (as' := [(2, e), (2, ef4), (0, sz)]) (st := []) (by omega) (by omega) (by omega) rfl rfl (Nat.le_of_ble_eq_true rfl) (c_ad3_Lna_0 E S (up G 159 this 0 w2) this e ef4 sz hS e_s qs (by omega) (by omega) sz_e ef4e q3) ?_
    rintro _ S16 G17 ⟨g18, rfl, q19, q20⟩
    have s21 : S16 this = 159 := gr_lab g18 hS (by decide)
    have s22 : S16 e = 141 := gr_lab g18 e_s (by decide)
    have s23 : S16 ef4 = 180 := gr_lab g18 qs (by decide)
    have e24 : w2 = G17 159 this 0 := gr_val g18 h3 hS (by decide) rfl
    have g25 : Gr [180, 181, 182, 183, 184, 185] [(159, 0), (159, 1), (159, 2), (180, -1), (181, -1), (182, -1), (183, -1), (184, -1), (185, -1)] S G S16 G17 := gr_call g15 g18 rfl rfl
    refine r_ex hX hP 1 (pc' := 24) (st' := [(0, 1)]) (lo' := [(0, (2, this)), (1, (2, e))]) rfl ?_
    exact r_retZ hX hP rfl rfl (by omega) (by omega) (by omega) (by omega) ⟨g25, 1, rfl, (by omega), (by omega), (ci_ad5 ci tk0 g25 rfl rfl hS q19 (by have e := q20; omega)), q20⟩
  · skip
    have qs : S ef4 = 181 := by rw [ef4e]; exact q1
    have q2 : sz ≤ 15 := by rw [sz_e]; exact q2
    have q3 : ∀ i : Int, 0 ≤ i → i < sz → S (G 181 ef4 i) = 141 := by rw [sz_e, ef4e]; exact q3
    have g26 : Gr [180, 181, 182, 183, 184, 185] [(159, 0), (159, 1), (159, 2), (180, -1), (181, -1), (182, -1), (183, -1), (184, -1), (185, -1)] S G S (up G 159 this 0 w2) := (gr_up (gr_refl [180, 181, 182, 183, 184, 185] [(159, 0), (159, 1), (159, 2), (180, -1), (181, -1), (182, -1), (183, -1), (184, -1), (185, -1)] S G) rfl)
    refine r_callV gd hX hP rfl cv_Jx4a65c_131_159 hS (d' := 12) (mc' := 1) (ms' := 22) (as' := [(2, e), (2, ef4), (0, sz)]) (st := []) (by omega) (by omega) (by omega) rfl rfl (Nat.le_of_ble_eq_true rfl) (c_ad3_Lna_1 E S (up G 159 this 0 w2) this e ef4 sz hS e_s qs (by omega) (by omega) sz_e ef4e q3) ?_
    rintro _ S27 G28 ⟨g29, rfl, q30, q31⟩
    have s32 : S27 this = 159 := gr_lab g29 hS (by decide)
    have s33 : S27 e = 141 := gr_lab g29 e_s (by decide)
    have s34 : S27 ef4 = 181 := gr_lab g29 qs (by decide)
    have e35 : w2 = G28 159 this 0 := gr_val g29 h3 hS (by decide) rfl
    have g36 : Gr [180, 181, 182, 183, 184, 185] [(159, 0), (159, 1), (159, 2), (180, -1), (181, -1), (182, -1), (183, -1), (184, -1), (185, -1)] S G S27 G28 := gr_call g26 g29 rfl rfl
    refine r_ex hX hP 1 (pc' := 24) (st' := [(0, 1)]) (lo' := [(0, (2, this)), (1, (2, e))]) rfl ?_
    exact r_retZ hX hP rfl rfl (by omega) (by omega) (by omega) (by omega) ⟨g36, 1, rfl, (by omega), (by omega), (ci_ad5 ci tk0 g36 rfl rfl hS q30 (by have e := q31; omega)), q31⟩
  · skip
    have qs : S ef4 = 182 := by rw [ef4e]; exact q1
    have q2 : sz ≤ 22 := by rw [sz_e]; exact q2
    have q3 : ∀ i : Int, 0 ≤ i → i < sz → S (G 182 ef4 i) = 141 := by rw [sz_e, ef4e]; exact q3
    have g37 : Gr [180, 181, 182, 183, 184, 185] [(159, 0), (159, 1), (159, 2), (180, -1), (181, -1), (182, -1), (183, -1), (184, -1), (185, -1)] S G S (up G 159 this 0 w2) := (gr_up (gr_refl [180, 181, 182, 183, 184, 185] [(159, 0), (159, 1), (159, 2), (180, -1), (181, -1), (182, -1), (183, -1), (184, -1), (185, -1)] S G) rfl)
    refine r_callV gd hX hP rfl cv_Jx4a65c_131_159 hS (d' := 12) (mc' := 1) (ms' := 33) (as' := [(2, e), (2, ef4), (0, sz)]) (st := []) (by omega) (by omega) (by omega) rfl rfl (Nat.le_of_ble_eq_true rfl) (c_ad3_Lna_2 E S (up G 159 this 0 w2) this e ef4 sz hS e_s qs (by omega) (by omega) sz_e ef4e q3) ?_
    rintro _ S38 G39 ⟨g40, rfl, q41, q42⟩
    have s43 : S38 this = 159 := gr_lab g40 hS (by decide)
    have s44 : S38 e = 141 := gr_lab g40 e_s (by decide)
    have s45 : S38 ef4 = 182 := gr_lab g40 qs (by decide)
    have e46 : w2 = G39 159 this 0 := gr_val g40 h3 hS (by decide) rfl
    have g47 : Gr [180, 181, 182, 183, 184, 185] [(159, 0), (159, 1), (159, 2), (180, -1), (181, -1), (182, -1), (183, -1), (184, -1), (185, -1)] S G S38 G39 := gr_call g37 g40 rfl rfl
    refine r_ex hX hP 1 (pc' := 24) (st' := [(0, 1)]) (lo' := [(0, (2, this)), (1, (2, e))]) rfl ?_
    exact r_retZ hX hP rfl rfl (by omega) (by omega) (by omega) (by omega) ⟨g47, 1, rfl, (by omega), (by omega), (ci_ad5 ci tk0 g47 rfl rfl hS q41 (by have e := q42; omega)), q42⟩
  · skip
    have qs : S ef4 = 183 := by rw [ef4e]; exact q1
    have q2 : sz ≤ 33 := by rw [sz_e]; exact q2
    have q3 : ∀ i : Int, 0 ≤ i → i < sz → S (G 183 ef4 i) = 141 := by rw [sz_e, ef4e]; exact q3
    have g48 : Gr [180, 181, 182, 183, 184, 185] [(159, 0), (159, 1), (159, 2), (180, -1), (181, -1), (182, -1), (183, -1), (184, -1), (185, -1)] S G S (up G 159 this 0 w2) := (gr_up (gr_refl [180, 181, 182, 183, 184, 185] [(159, 0), (159, 1), (159, 2), (180, -1), (181, -1), (182, -1), (183, -1), (184, -1), (185, -1)] S G) rfl)
    refine r_callV gd hX hP rfl cv_Jx4a65c_131_159 hS (d' := 12) (mc' := 1) (ms' := 49) (as' := [(2, e), (2, ef4), (0, sz)]) (st := []) (by omega) (by omega) (by omega) rfl rfl (Nat.le_of_ble_eq_true rfl) (c_ad3_Lna_3 E S (up G 159 this 0 w2) this e ef4 sz hS e_s qs (by omega) (by omega) sz_e ef4e q3) ?_
    rintro _ S49 G50 ⟨g51, rfl, q52, q53⟩
    have s54 : S49 this = 159 := gr_lab g51 hS (by decide)
    have s55 : S49 e = 141 := gr_lab g51 e_s (by decide)
    have s56 : S49 ef4 = 183 := gr_lab g51 qs (by decide)
    have e57 : w2 = G50 159 this 0 := gr_val g51 h3 hS (by decide) rfl
    have g58 : Gr [180, 181, 182, 183, 184, 185] [(159, 0), (159, 1), (159, 2), (180, -1), (181, -1), (182, -1), (183, -1), (184, -1), (185, -1)] S G S49 G50 := gr_call g48 g51 rfl rfl
    refine r_ex hX hP 1 (pc' := 24) (st' := [(0, 1)]) (lo' := [(0, (2, this)), (1, (2, e))]) rfl ?_
    exact r_retZ hX hP rfl rfl (by omega) (by omega) (by omega) (by omega) ⟨g58, 1, rfl, (by omega), (by omega), (ci_ad5 ci tk0 g58 rfl rfl hS q52 (by have e := q53; omega)), q53⟩
  · skip
    have qs : S ef4 = 184 := by rw [ef4e]; exact q1
    have q2 : sz ≤ 49 := by rw [sz_e]; exact q2
    have q3 : ∀ i : Int, 0 ≤ i → i < sz → S (G 184 ef4 i) = 141 := by rw [sz_e, ef4e]; exact q3
    have g59 : Gr [180, 181, 182, 183, 184, 185] [(159, 0), (159, 1), (159, 2), (180, -1), (181, -1), (182, -1), (183, -1), (184, -1), (185, -1)] S G S (up G 159 this 0 w2) := (gr_up (gr_refl [180, 181, 182, 183, 184, 185] [(159, 0), (159, 1), (159, 2), (180, -1), (181, -1), (182, -1), (183, -1), (184, -1), (185, -1)] S G) rfl)
    refine r_callV gd hX hP rfl cv_Jx4a65c_131_159 hS (d' := 12) (mc' := 1) (ms' := 73) (as' := [(2, e), (2, ef4), (0, sz)]) (st := []) (by omega) (by omega) (by omega) rfl rfl (Nat.le_of_ble_eq_true rfl) (c_ad3_Lna_4 E S (up G 159 this 0 w2) this e ef4 sz hS e_s qs (by omega) (by omega) sz_e ef4e q3) ?_
    rintro _ S60 G61 ⟨g62, rfl, q63, q64⟩
    have s65 : S60 this = 159 := gr_lab g62 hS (by decide)
    have s66 : S60 e = 141 := gr_lab g62 e_s (by decide)
    have s67 : S60 ef4 = 184 := gr_lab g62 qs (by decide)
    have e68 : w2 = G61 159 this 0 := gr_val g62 h3 hS (by decide) rfl
    have g69 : Gr [180, 181, 182, 183, 184, 185] [(159, 0), (159, 1), (159, 2), (180, -1), (181, -1), (182, -1), (183, -1), (184, -1), (185, -1)] S G S60 G61 := gr_call g59 g62 rfl rfl
    refine r_ex hX hP 1 (pc' := 24) (st' := [(0, 1)]) (lo' := [(0, (2, this)), (1, (2, e))]) rfl ?_
    exact r_retZ hX hP rfl rfl (by omega) (by omega) (by omega) (by omega) ⟨g69, 1, rfl, (by omega), (by omega), (ci_ad5 ci tk0 g69 rfl rfl hS q63 (by have e := q64; omega)), q64⟩
  · skip
    have qs : S ef4 = 185 := by rw [ef4e]; exact q1
    have q2 : sz ≤ 73 := by rw [sz_e]; exact q2
    have q3 : ∀ i : Int, 0 ≤ i → i < sz → S (G 185 ef4 i) = 141 := by rw [sz_e, ef4e]; exact q3
    have g70 : Gr [180, 181, 182, 183, 184, 185] [(159, 0), (159, 1), (159, 2), (180, -1), (181, -1), (182, -1), (183, -1), (184, -1), (185, -1)] S G S (up G 159 this 0 w2) := (gr_up (gr_refl [180, 181, 182, 183, 184, 185] [(159, 0), (159, 1), (159, 2), (180, -1), (181, -1), (182, -1), (183, -1), (184, -1), (185, -1)] S G) rfl)
    refine r_callV gd hX hP rfl cv_Jx4a65c_131_159 hS (d' := 12) (mc' := 0) (ms' := 0) (as' := [(2, e), (2, ef4), (0, sz)]) (st := []) (by omega) (by omega) (by omega) rfl rfl (Nat.le_of_ble_eq_true rfl) (c_ad3_Lna_5 E S (up G 159 this 0 w2) this e ef4 sz hS e_s qs (by omega) (by omega) sz_e ef4e q3) ?_
    rintro _ S71 G72 ⟨g73, rfl, q74, q75⟩
    have s76 : S71 this = 159 := gr_lab g73 hS (by decide)
    have s77 : S71 e = 141 := gr_lab g73 e_s (by decide)
    have s78 : S71 ef4 = 185 := gr_lab g73 qs (by decide)
    have e79 : w2 = G72 159 this 0 := gr_val g73 h3 hS (by decide) rfl
    have e80 : ef4 = G72 159 this 1 := gr_val g73 ef4e hS (by decide) rfl
    have g81 : Gr [180, 181, 182, 183, 184, 185] [(159, 0), (159, 1), (159, 2), (180, -1), (181, -1), (182, -1), (183, -1), (184, -1), (185, -1)] S G S71 G72 := gr_call g70 g73 rfl rfl
    refine r_ex hX hP 1 (pc' := 24) (st' := [(0, 1)]) (lo' := [(0, (2, this)), (1, (2, e))]) rfl ?_
    exact r_retZ hX hP rfl rfl (by omega) (by omega) (by omega) (by omega) ⟨g81, 1, rfl, (by omega), (by omega), (ci_ad5 ci tk0 g81 rfl rfl hS q74 (by have e := q75; omega)), q75⟩
