section RUU
variable {E : En} {M : Mk} {as : List Vl} {d mc ms : Nat} {Y : Option Vl → Sg → Gh → Prop} {X : Xp} {cs ss : Nat} {S : Sg} {G : Gh} {P : Cod} {pc tgt idx : Nat} {st : List Vl} {lo : Lo} {x y off a L : Int}
/-- a field that a superclass declares -/
def FlU (own : String) (idx : Nat) (L : Int) (j : Nat) (t : Ty) : Prop := ∃ (ci N : Nat) (fs : List Ty) (C : String) (T : u_T) (ref : String), lbls[L.toNat]? = some (.inl (ci, fs)) ∧ fs.length = N ∧ j < N ∧ fs.getD j (0, 0, 0) = t ∧ L ≠ 0 ∧ vwCl[ci]? = some (C, T, N) ∧ Cf ci N ∧ Cond.fieldLink own idx ref (T j).2.1 (T j).2.2.1 ∈ tb ∧ Cond.sameField ref (T j).1 (T j).2.1 (T j).2.2.1 ∈ tb ∧ (T j).2.2.2 = false ∧ parseFieldDescriptor (T j).2.2.1 = some .int
theorem r_getUI (hX : Cl E M as d mc ms Y X) (hP : Dec M.2.1 P) (hf : fd P pc = some (.getfield idx, 3)) {j : Nat} {l h : Int} (hF : FlU M.1.cls idx L j (0, l, h)) (hS : S a = L) (k : ∀ v : Int, v = G L a j → l ≤ v → v ≤ h → X cs ss (pc + 3) ((0, v) :: st) lo S G) : X cs ss pc ((2, a) :: st) lo S G := by
  obtain ⟨p, e, z, m, below, meth, c, hx, hb, hr, hml, hown, hlk, hnm, hts, hK, rfl⟩ := hX
  obtain ⟨ci, N, fs, C, T, ref, f1, f2, f3, f4, f5, f6, f7, f8, f9, -, -⟩ := hF
  intro H locs ls hR hz hL hl
  obtain ⟨ha, hb0, hc⟩ := rep_at hR hS f5
  unfold cel at hc
  rw [f1] at hc
  obtain ⟨⟨cell, c1, c2, c3, c4⟩, c5⟩ := hc
  have hv := c5 j (by omega)
  rw [f4] at hv
  have k := k _ rfl hv.1 hv.2 H locs ls hR hz hL hl
  obtain ⟨w1, -, -⟩ := f7.tw f6
  obtain ⟨hSl, hfc, kC, hkC, hkind⟩ := hK.1.1 ci _ f6
  obtain ⟨cf, kf, fi, f, hi, hsl⟩ := hSl j f3
  simp only [ts, List.map_cons] at k ⊢
  rw [tv2 ha]
  refine W.getf hx hb hown (hts _ f8) (u_same (hts _ f9) _ hi) (u_facts hfc hkC (u_lays hts w1 f3) hi).1 c1 (by rw [c3]; exact fun h => by cases h) (v := tv (0, G L a j)) ?_ rfl rfl (fd_dec hP hf) k
  rw [hsl, c4 j (by omega)]
  show some (tv ((fs.getD j (0, 0, 0)).1, G L a j)) = _
  rw [f4]
theorem r_putUI (hX : Cl E M as d mc ms Y X) (hP : Dec M.2.1 P) (hf : fd P pc = some (.putfield idx, 3)) {j : Nat} {l h v : Int} (hF : FlU M.1.cls idx L j (0, l, h)) (hS : S a = L) (v1 : l ≤ v) (v2 : v ≤ h) (k : X cs ss (pc + 3) st lo S (up G L a j v)) : X cs ss pc ((0, v) :: (2, a) :: st) lo S G := by
  obtain ⟨p, e, z, m, below, meth, c, hx, hb, hr, hml, hown, hlk, hnm, hts, hK, rfl⟩ := hX
  obtain ⟨ci, N, fs, C, T, ref, f1, f2, f3, f4, f5, f6, f7, f8, f9, g3, g4⟩ := hF
  intro H locs ls hR hz hL hl
  obtain ⟨ha, hb0, hc⟩ := rep_at hR hS f5
  unfold cel at hc
  rw [f1] at hc
  obtain ⟨⟨cell, c1, c2, c3, c4⟩, c5⟩ := hc
  obtain ⟨w1, ⟨ty0, w2⟩, w3⟩ := f7.tw f6
  have hap := va_apart (own := M.1.cls) hts w1 ty0 w2 w3 hK.1 f6
  obtain ⟨hSl, hfc, kC, hkC, hkind⟩ := hK.1.1 ci _ f6
  obtain ⟨cf, kf, fi, f, hi, hsl⟩ := hSl j f3
  have hlay := hts _ (w1 _ (u_in_lay f3))
  unfold u_lay at hlay
  rw [if_neg (by rw [g3]; decide)] at hlay
  have hst := (u_facts hfc hkC (u_lays hts w1 f3) hi).1
  have h6 := u_store (v := tv (0, v)) hfc hkC hkind hlay hi g4 rfl rfl
  simp only [ts, List.map_cons]
  rw [tv2 ha]
  refine W.putK hx hb (f := f) ⟨hown, hts _ f8, ⟨_, _, _, u_same (hts _ f9) _ hi⟩, hst⟩ (by rw [c2]; exact h6) c1 c3 (by rw [hsl]; exact k2_hasslot (c4 j (by omega))) rfl rfl (fd_dec hP hf) fun H' e1 e2 e3 => ?_
  rw [hsl] at e1 ⊢
  refine k H' _ ls (rep_up hR hS f5 e2 e3 ?_) (by rw [e2]; exact hz) ?_ hl
  · unfold cel
    rw [f1]
    subst f2
    refine ⟨t_OB.to ⟨_, e1, c2, c3, t_set c4 hap f3 (tv (0, v))⟩ (fun i hi => ?_), fun i hi => ?_⟩
    · by_cases ei : i = j
      · subst ei
        simp only [updV, if_true]
        rw [f4, up_self]
      · simp only [updV, if_neg ei]
        rw [up_ne (fun q => ei (by omega))]
    · by_cases ei : i = j
      · subst ei
        rw [f4, up_self]
        exact ⟨v1, v2⟩
      · rw [up_ne (fun q => ei (by omega))]
        exact c5 i hi
  · intro q hq
    rcases List.mem_append.mp hq with h9 | h9
    · exact hL q h9
    · rw [List.mem_singleton.mp h9]
      exact hb0
end RUU
section CIA
variable {E : En} {S S' : Sg} {G G' : Gh} {nl : List Int} {ws : List (Int × Int)} {a : Int}
def djx (cf ws : List (Int × Int)) : Bool := cf.all (fun q => ws.all (fun p => !(p.1 == q.1 && (p.2 == -1 || q.2 == -1 || p.2 == q.2))))
theorem djx_out {cf ws : List (Int × Int)} (h : djx cf ws = true) {q : Int × Int} (hq : q ∈ cf) {j : Int} (hj : q.2 = -1 ∨ q.2 = j) : inm ws q.1 j = false := by
  cases e : inm ws q.1 j with
  | false => rfl
  | true =>
    exfalso
    obtain ⟨p, hp, e1, e2⟩ := inm_iff.mp e
    have h1 := List.all_eq_true.mp (List.all_eq_true.mp h q hq) p hp
    simp only [Bool.not_eq_true', Bool.and_eq_false_iff, Bool.or_eq_false_iff, beq_eq_false_iff_ne, ne_eq] at h1
    rcases h1 with h1 | h1
    · exact h1 e1
    · rcases e2 with e2 | e2
      · exact h1.1.1 e2
      · rcases hj with hj | hj
        · exact h1.1.2 hj
        · exact h1.2 (e2.trans hj.symm)
theorem gr_cx {cf : List (Int × Int)} (g : Gr nl ws S G S' G') (c2 : djx cf ws = true) {x L j : Int} (q : Int × Int) (hq : q ∈ cf) (e : q.1 = L) (hj : q.2 = -1 ∨ q.2 = j) (hx : S x = L) (hL : L ≠ 0) : G' L x j = G L x j := gr_at g hx hL (by subst e; exact djx_out c2 hq hj)
def cif0 : List (Int × Int) := [(120, -1), (121, -1), (136, 3), (136, 5), (138, 2), (155, 1), (155, 2), (156, 1), (156, 2), (157, 1), (157, 2), (158, 1), (158, 2), (159, 1), (159, 2), (165, -1), (166, -1), (167, -1), (168, -1), (169, -1), (170, -1), (171, -1), (172, -1), (173, -1), (174, -1), (175, -1), (176, -1), (177, -1), (178, -1), (179, -1), (180, -1), (181, -1), (182, -1), (183, -1), (184, -1), (185, -1)]
theorem ci_ad0 (h : CI E S G) (tk : TKP S G) (g : Gr nl ws S G S' G') (c1 : nlk nl = true) (c2 : djx cif0 ws = true) (hS : S a = 154) (lb : LB0 E S' G' a) (hz : G 154 a 2 ≤ G' 154 a 2) : CI E S' G' := by
  obtain ⟨a0, a1, a2, a3, a4, a5, a6, a7, a8, a9⟩ := h
  refine ⟨?_, ?_, ?_, ?_, ?_, ?_, ?_, ?_, ?_, ?_⟩
  · intro a b hab hu
    have ha := gr_bk g c1 (by unfold cil; rw [hu]; rfl) (rfl : S' a = S' a)
    have hb := gr_bk g c1 (by unfold cil; rw [hu]; rfl) hab.symm
    exact a0 a b (ha.trans hb.symm) (by rw [ha]; exact hu)
  · intro l hl
    have hl := gr_bk g c1 rfl hl
    rw [a0 l a (hl.trans hS.symm) (by rw [hl]; rfl)]
    exact lb
  · intro l hl
    have hl := gr_bk g c1 rfl hl
    rw [(gr_cx g c2 (155, 1) (by decide) (L := 155) (j := 1) rfl (Or.inr rfl) hl (by decide)), (gr_cx g c2 (155, 2) (by decide) (L := 155) (j := 2) rfl (Or.inr rfl) hl (by decide))]
    rcases a2 l hl with q | ⟨q1, q2, q3⟩ | ⟨q1, q2, q3⟩ | ⟨q1, q2, q3⟩ | ⟨q1, q2, q3⟩ | ⟨q1, q2, q3⟩
    · exact Or.inl q
    · exact Or.inr (Or.inl (⟨gr_lab g q1 (by decide), q2, fun i h0 h1 => by rw [(gr_cx g c2 (165, -1) (by decide) (L := 165) rfl (Or.inl rfl) q1 (by decide))]; exact gr_lab g (q3 i h0 h1) (by decide)⟩))
    · exact Or.inr (Or.inr (Or.inl (⟨gr_lab g q1 (by decide), q2, fun i h0 h1 => by rw [(gr_cx g c2 (166, -1) (by decide) (L := 166) rfl (Or.inl rfl) q1 (by decide))]; exact gr_lab g (q3 i h0 h1) (by decide)⟩)))
    · exact Or.inr (Or.inr (Or.inr (Or.inl (⟨gr_lab g q1 (by decide), q2, fun i h0 h1 => by rw [(gr_cx g c2 (167, -1) (by decide) (L := 167) rfl (Or.inl rfl) q1 (by decide))]; exact gr_lab g (q3 i h0 h1) (by decide)⟩))))
    · exact Or.inr (Or.inr (Or.inr (Or.inr (Or.inl (⟨gr_lab g q1 (by decide), q2, fun i h0 h1 => by rw [(gr_cx g c2 (168, -1) (by decide) (L := 168) rfl (Or.inl rfl) q1 (by decide))]; exact gr_lab g (q3 i h0 h1) (by decide)⟩)))))
    · exact Or.inr (Or.inr (Or.inr (Or.inr (Or.inr (⟨gr_lab g q1 (by decide), q2, fun i h0 h1 => by rw [(gr_cx g c2 (169, -1) (by decide) (L := 169) rfl (Or.inl rfl) q1 (by decide))]; exact gr_lab g (q3 i h0 h1) (by decide)⟩)))))
  · intro l hl
    have hl := gr_bk g c1 rfl hl
    rw [(gr_cx g c2 (156, 1) (by decide) (L := 156) (j := 1) rfl (Or.inr rfl) hl (by decide)), (gr_cx g c2 (156, 2) (by decide) (L := 156) (j := 2) rfl (Or.inr rfl) hl (by decide))]
    rcases a3 l hl with q | ⟨q1, q2, q3⟩ | ⟨q1, q2, q3⟩ | ⟨q1, q2, q3⟩
    · exact Or.inl q
    · exact Or.inr (Or.inl (⟨gr_lab g q1 (by decide), q2, fun i h0 h1 => by rw [(gr_cx g c2 (170, -1) (by decide) (L := 170) rfl (Or.inl rfl) q1 (by decide))]; exact gr_lab g (q3 i h0 h1) (by decide)⟩))
    · exact Or.inr (Or.inr (Or.inl (⟨gr_lab g q1 (by decide), q2, fun i h0 h1 => by rw [(gr_cx g c2 (171, -1) (by decide) (L := 171) rfl (Or.inl rfl) q1 (by decide))]; exact gr_lab g (q3 i h0 h1) (by decide)⟩)))
    · exact Or.inr (Or.inr (Or.inr (⟨gr_lab g q1 (by decide), q2, fun i h0 h1 => by rw [(gr_cx g c2 (172, -1) (by decide) (L := 172) rfl (Or.inl rfl) q1 (by decide))]; exact gr_lab g (q3 i h0 h1) (by decide)⟩)))
  · intro l hl
    have hl := gr_bk g c1 rfl hl
    rw [(gr_cx g c2 (157, 1) (by decide) (L := 157) (j := 1) rfl (Or.inr rfl) hl (by decide)), (gr_cx g c2 (157, 2) (by decide) (L := 157) (j := 2) rfl (Or.inr rfl) hl (by decide))]
    rcases a4 l hl with q | ⟨q1, q2, q3⟩ | ⟨q1, q2, q3⟩ | ⟨q1, q2, q3⟩ | ⟨q1, q2, q3⟩ | ⟨q1, q2, q3⟩ | ⟨q1, q2, q3⟩
    · exact Or.inl q
    · exact Or.inr (Or.inl (⟨gr_lab g q1 (by decide), q2, fun i h0 h1 => by rw [(gr_cx g c2 (173, -1) (by decide) (L := 173) rfl (Or.inl rfl) q1 (by decide))]; exact gr_lab g (q3 i h0 h1) (by decide)⟩))
    · exact Or.inr (Or.inr (Or.inl (⟨gr_lab g q1 (by decide), q2, fun i h0 h1 => by rw [(gr_cx g c2 (174, -1) (by decide) (L := 174) rfl (Or.inl rfl) q1 (by decide))]; exact gr_lab g (q3 i h0 h1) (by decide)⟩)))
    · exact Or.inr (Or.inr (Or.inr (Or.inl (⟨gr_lab g q1 (by decide), q2, fun i h0 h1 => by rw [(gr_cx g c2 (175, -1) (by decide) (L := 175) rfl (Or.inl rfl) q1 (by decide))]; exact gr_lab g (q3 i h0 h1) (by decide)⟩))))
    · exact Or.inr (Or.inr (Or.inr (Or.inr (Or.inl (⟨gr_lab g q1 (by decide), q2, fun i h0 h1 => by rw [(gr_cx g c2 (176, -1) (by decide) (L := 176) rfl (Or.inl rfl) q1 (by decide))]; exact gr_lab g (q3 i h0 h1) (by decide)⟩)))))
    · exact Or.inr (Or.inr (Or.inr (Or.inr (Or.inr (Or.inl (⟨gr_lab g q1 (by decide), q2, fun i h0 h1 => by rw [(gr_cx g c2 (177, -1) (by decide) (L := 177) rfl (Or.inl rfl) q1 (by decide))]; exact gr_lab g (q3 i h0 h1) (by decide)⟩))))))
    · exact Or.inr (Or.inr (Or.inr (Or.inr (Or.inr (Or.inr (⟨gr_lab g q1 (by decide), q2, fun i h0 h1 => by rw [(gr_cx g c2 (178, -1) (by decide) (L := 178) rfl (Or.inl rfl) q1 (by decide))]; exact gr_lab g (q3 i h0 h1) (by decide)⟩))))))
  · intro l hl
    have hl := gr_bk g c1 rfl hl
    rw [(gr_cx g c2 (158, 1) (by decide) (L := 158) (j := 1) rfl (Or.inr rfl) hl (by decide)), (gr_cx g c2 (158, 2) (by decide) (L := 158) (j := 2) rfl (Or.inr rfl) hl (by decide))]
    rcases a5 l hl with q | ⟨q1, q2, q3⟩
    · exact Or.inl q
    · exact Or.inr (⟨gr_lab g q1 (by decide), q2, fun i h0 h1 => by rw [(gr_cx g c2 (179, -1) (by decide) (L := 179) rfl (Or.inl rfl) q1 (by decide))]; exact gr_lab g (q3 i h0 h1) (by decide)⟩)
  · intro l hl
    have hl := gr_bk g c1 rfl hl
    rw [(gr_cx g c2 (159, 1) (by decide) (L := 159) (j := 1) rfl (Or.inr rfl) hl (by decide)), (gr_cx g c2 (159, 2) (by decide) (L := 159) (j := 2) rfl (Or.inr rfl) hl (by decide))]
    rcases a6 l hl with q | ⟨q1, q2, q3⟩ | ⟨q1, q2, q3⟩ | ⟨q1, q2, q3⟩ | ⟨q1, q2, q3⟩ | ⟨q1, q2, q3⟩ | ⟨q1, q2, q3⟩
    · exact Or.inl q
    · exact Or.inr (Or.inl (⟨gr_lab g q1 (by decide), q2, fun i h0 h1 => by rw [(gr_cx g c2 (180, -1) (by decide) (L := 180) rfl (Or.inl rfl) q1 (by decide))]; exact gr_lab g (q3 i h0 h1) (by decide)⟩))
    · exact Or.inr (Or.inr (Or.inl (⟨gr_lab g q1 (by decide), q2, fun i h0 h1 => by rw [(gr_cx g c2 (181, -1) (by decide) (L := 181) rfl (Or.inl rfl) q1 (by decide))]; exact gr_lab g (q3 i h0 h1) (by decide)⟩)))
    · exact Or.inr (Or.inr (Or.inr (Or.inl (⟨gr_lab g q1 (by decide), q2, fun i h0 h1 => by rw [(gr_cx g c2 (182, -1) (by decide) (L := 182) rfl (Or.inl rfl) q1 (by decide))]; exact gr_lab g (q3 i h0 h1) (by decide)⟩))))
    · exact Or.inr (Or.inr (Or.inr (Or.inr (Or.inl (⟨gr_lab g q1 (by decide), q2, fun i h0 h1 => by rw [(gr_cx g c2 (183, -1) (by decide) (L := 183) rfl (Or.inl rfl) q1 (by decide))]; exact gr_lab g (q3 i h0 h1) (by decide)⟩)))))
    · exact Or.inr (Or.inr (Or.inr (Or.inr (Or.inr (Or.inl (⟨gr_lab g q1 (by decide), q2, fun i h0 h1 => by rw [(gr_cx g c2 (184, -1) (by decide) (L := 184) rfl (Or.inl rfl) q1 (by decide))]; exact gr_lab g (q3 i h0 h1) (by decide)⟩))))))
    · exact Or.inr (Or.inr (Or.inr (Or.inr (Or.inr (Or.inr (⟨gr_lab g q1 (by decide), q2, fun i h0 h1 => by rw [(gr_cx g c2 (185, -1) (by decide) (L := 185) rfl (Or.inl rfl) q1 (by decide))]; exact gr_lab g (q3 i h0 h1) (by decide)⟩))))))
  · intro t ht i h0 h1 hh
    have ht := gr_bk g c1 rfl ht
    rw [(gr_cx g c2 (136, 3) (by decide) (L := 136) (j := 3) rfl (Or.inr rfl) ht (by decide)), (gr_cx g c2 (120, -1) (by decide) (L := 120) rfl (Or.inl rfl) (tk t ht).1 (by decide))] at hh
    rw [(gr_cx g c2 (136, 5) (by decide) (L := 136) (j := 5) rfl (Or.inr rfl) ht (by decide)), (gr_cx g c2 (121, -1) (by decide) (L := 121) rfl (Or.inl rfl) (tk t ht).2 (by decide))]
    exact a7 t ht i h0 h1 hh
  · intro t u ht hu hh
    have ht := gr_bk g c1 rfl ht
    have hu := gr_bk g c1 rfl hu
    rw [(gr_cx g c2 (136, 3) (by decide) (L := 136) (j := 3) rfl (Or.inr rfl) ht (by decide)), (gr_cx g c2 (136, 3) (by decide) (L := 136) (j := 3) rfl (Or.inr rfl) hu (by decide)), (gr_cx g c2 (136, 5) (by decide) (L := 136) (j := 5) rfl (Or.inr rfl) ht (by decide)), (gr_cx g c2 (136, 5) (by decide) (L := 136) (j := 5) rfl (Or.inr rfl) hu (by decide))] at hh
    exact a8 t u ht hu hh
  · intro p l hp hl
    have hp := gr_bk g c1 rfl hp
    have hl := gr_bk g c1 rfl hl
    rw [(gr_cx g c2 (138, 2) (by decide) (L := 138) (j := 2) rfl (Or.inr rfl) hp (by decide)), (gr_cx g c2 (156, 2) (by decide) (L := 156) (j := 2) rfl (Or.inr rfl) hl (by decide))]
    exact a9 p l hp hl
def cif1 : List (Int × Int) := [(120, -1), (121, -1), (136, 3), (136, 5), (138, 2), (154, 1), (154, 2), (156, 1), (156, 2), (157, 1), (157, 2), (158, 1), (158, 2), (159, 1), (159, 2), (160, -1), (161, -1), (162, -1), (163, -1), (164, -1), (170, -1), (171, -1), (172, -1), (173, -1), (174, -1), (175, -1), (176, -1), (177, -1), (178, -1), (179, -1), (180, -1), (181, -1), (182, -1), (183, -1), (184, -1), (185, -1)]
theorem ci_ad1 (h : CI E S G) (tk : TKP S G) (g : Gr nl ws S G S' G') (c1 : nlk nl = true) (c2 : djx cif1 ws = true) (hS : S a = 155) (lb : LB1 E S' G' a) (hz : G 155 a 2 ≤ G' 155 a 2) : CI E S' G' := by
  obtain ⟨a0, a1, a2, a3, a4, a5, a6, a7, a8, a9⟩ := h
  refine ⟨?_, ?_, ?_, ?_, ?_, ?_, ?_, ?_, ?_, ?_⟩
  · intro a b hab hu
    have ha := gr_bk g c1 (by unfold cil; rw [hu]; rfl) (rfl : S' a = S' a)
    have hb := gr_bk g c1 (by unfold cil; rw [hu]; rfl) hab.symm
    exact a0 a b (ha.trans hb.symm) (by rw [ha]; exact hu)
  · intro l hl
    have hl := gr_bk g c1 rfl hl
    rw [(gr_cx g c2 (154, 1) (by decide) (L := 154) (j := 1) rfl (Or.inr rfl) hl (by decide)), (gr_cx g c2 (154, 2) (by decide) (L := 154) (j := 2) rfl (Or.inr rfl) hl (by decide))]
    rcases a1 l hl with q | ⟨q1, q2, q3⟩ | ⟨q1, q2, q3⟩ | ⟨q1, q2, q3⟩ | ⟨q1, q2, q3⟩ | ⟨q1, q2, q3⟩
    · exact Or.inl q
    · exact Or.inr (Or.inl (⟨gr_lab g q1 (by decide), q2, fun i h0 h1 => by rw [(gr_cx g c2 (160, -1) (by decide) (L := 160) rfl (Or.inl rfl) q1 (by decide))]; exact gr_lab g (q3 i h0 h1) (by decide)⟩))
    · exact Or.inr (Or.inr (Or.inl (⟨gr_lab g q1 (by decide), q2, fun i h0 h1 => by rw [(gr_cx g c2 (161, -1) (by decide) (L := 161) rfl (Or.inl rfl) q1 (by decide))]; exact gr_lab g (q3 i h0 h1) (by decide)⟩)))
    · exact Or.inr (Or.inr (Or.inr (Or.inl (⟨gr_lab g q1 (by decide), q2, fun i h0 h1 => by rw [(gr_cx g c2 (162, -1) (by decide) (L := 162) rfl (Or.inl rfl) q1 (by decide))]; exact gr_lab g (q3 i h0 h1) (by decide)⟩))))
    · exact Or.inr (Or.inr (Or.inr (Or.inr (Or.inl (⟨gr_lab g q1 (by decide), q2, fun i h0 h1 => by rw [(gr_cx g c2 (163, -1) (by decide) (L := 163) rfl (Or.inl rfl) q1 (by decide))]; exact gr_lab g (q3 i h0 h1) (by decide)⟩)))))
    · exact Or.inr (Or.inr (Or.inr (Or.inr (Or.inr (⟨gr_lab g q1 (by decide), q2, fun i h0 h1 => by rw [(gr_cx g c2 (164, -1) (by decide) (L := 164) rfl (Or.inl rfl) q1 (by decide))]; exact gr_lab g (q3 i h0 h1) (by decide)⟩)))))
  · intro l hl
    have hl := gr_bk g c1 rfl hl
    rw [a0 l a (hl.trans hS.symm) (by rw [hl]; rfl)]
    exact lb
  · intro l hl
    have hl := gr_bk g c1 rfl hl
    rw [(gr_cx g c2 (156, 1) (by decide) (L := 156) (j := 1) rfl (Or.inr rfl) hl (by decide)), (gr_cx g c2 (156, 2) (by decide) (L := 156) (j := 2) rfl (Or.inr rfl) hl (by decide))]
    rcases a3 l hl with q | ⟨q1, q2, q3⟩ | ⟨q1, q2, q3⟩ | ⟨q1, q2, q3⟩
    · exact Or.inl q
    · exact Or.inr (Or.inl (⟨gr_lab g q1 (by decide), q2, fun i h0 h1 => by rw [(gr_cx g c2 (170, -1) (by decide) (L := 170) rfl (Or.inl rfl) q1 (by decide))]; exact gr_lab g (q3 i h0 h1) (by decide)⟩))
    · exact Or.inr (Or.inr (Or.inl (⟨gr_lab g q1 (by decide), q2, fun i h0 h1 => by rw [(gr_cx g c2 (171, -1) (by decide) (L := 171) rfl (Or.inl rfl) q1 (by decide))]; exact gr_lab g (q3 i h0 h1) (by decide)⟩)))
    · exact Or.inr (Or.inr (Or.inr (⟨gr_lab g q1 (by decide), q2, fun i h0 h1 => by rw [(gr_cx g c2 (172, -1) (by decide) (L := 172) rfl (Or.inl rfl) q1 (by decide))]; exact gr_lab g (q3 i h0 h1) (by decide)⟩)))
  · intro l hl
    have hl := gr_bk g c1 rfl hl
    rw [(gr_cx g c2 (157, 1) (by decide) (L := 157) (j := 1) rfl (Or.inr rfl) hl (by decide)), (gr_cx g c2 (157, 2) (by decide) (L := 157) (j := 2) rfl (Or.inr rfl) hl (by decide))]
    rcases a4 l hl with q | ⟨q1, q2, q3⟩ | ⟨q1, q2, q3⟩ | ⟨q1, q2, q3⟩ | ⟨q1, q2, q3⟩ | ⟨q1, q2, q3⟩ | ⟨q1, q2, q3⟩
    · exact Or.inl q
    · exact Or.inr (Or.inl (⟨gr_lab g q1 (by decide), q2, fun i h0 h1 => by rw [(gr_cx g c2 (173, -1) (by decide) (L := 173) rfl (Or.inl rfl) q1 (by decide))]; exact gr_lab g (q3 i h0 h1) (by decide)⟩))
    · exact Or.inr (Or.inr (Or.inl (⟨gr_lab g q1 (by decide), q2, fun i h0 h1 => by rw [(gr_cx g c2 (174, -1) (by decide) (L := 174) rfl (Or.inl rfl) q1 (by decide))]; exact gr_lab g (q3 i h0 h1) (by decide)⟩)))
    · exact Or.inr (Or.inr (Or.inr (Or.inl (⟨gr_lab g q1 (by decide), q2, fun i h0 h1 => by rw [(gr_cx g c2 (175, -1) (by decide) (L := 175) rfl (Or.inl rfl) q1 (by decide))]; exact gr_lab g (q3 i h0 h1) (by decide)⟩))))
    · exact Or.inr (Or.inr (Or.inr (Or.inr (Or.inl (⟨gr_lab g q1 (by decide), q2, fun i h0 h1 => by rw [(gr_cx g c2 (176, -1) (by decide) (L := 176) rfl (Or.inl rfl) q1 (by decide))]; exact gr_lab g (q3 i h0 h1) (by decide)⟩)))))
    · exact Or.inr (Or.inr (Or.inr (Or.inr (Or.inr (Or.inl (⟨gr_lab g q1 (by decide), q2, fun i h0 h1 => by rw [(gr_cx g c2 (177, -1) (by decide) (L := 177) rfl (Or.inl rfl) q1 (by decide))]; exact gr_lab g (q3 i h0 h1) (by decide)⟩))))))
    · exact Or.inr (Or.inr (Or.inr (Or.inr (Or.inr (Or.inr (⟨gr_lab g q1 (by decide), q2, fun i h0 h1 => by rw [(gr_cx g c2 (178, -1) (by decide) (L := 178) rfl (Or.inl rfl) q1 (by decide))]; exact gr_lab g (q3 i h0 h1) (by decide)⟩))))))
  · intro l hl
    have hl := gr_bk g c1 rfl hl
    rw [(gr_cx g c2 (158, 1) (by decide) (L := 158) (j := 1) rfl (Or.inr rfl) hl (by decide)), (gr_cx g c2 (158, 2) (by decide) (L := 158) (j := 2) rfl (Or.inr rfl) hl (by decide))]
    rcases a5 l hl with q | ⟨q1, q2, q3⟩
    · exact Or.inl q
    · exact Or.inr (⟨gr_lab g q1 (by decide), q2, fun i h0 h1 => by rw [(gr_cx g c2 (179, -1) (by decide) (L := 179) rfl (Or.inl rfl) q1 (by decide))]; exact gr_lab g (q3 i h0 h1) (by decide)⟩)
  · intro l hl
    have hl := gr_bk g c1 rfl hl
    rw [(gr_cx g c2 (159, 1) (by decide) (L := 159) (j := 1) rfl (Or.inr rfl) hl (by decide)), (gr_cx g c2 (159, 2) (by decide) (L := 159) (j := 2) rfl (Or.inr rfl) hl (by decide))]
    rcases a6 l hl with q | ⟨q1, q2, q3⟩ | ⟨q1, q2, q3⟩ | ⟨q1, q2, q3⟩ | ⟨q1, q2, q3⟩ | ⟨q1, q2, q3⟩ | ⟨q1, q2, q3⟩
    · exact Or.inl q
    · exact Or.inr (Or.inl (⟨gr_lab g q1 (by decide), q2, fun i h0 h1 => by rw [(gr_cx g c2 (180, -1) (by decide) (L := 180) rfl (Or.inl rfl) q1 (by decide))]; exact gr_lab g (q3 i h0 h1) (by decide)⟩))
    · exact Or.inr (Or.inr (Or.inl (⟨gr_lab g q1 (by decide), q2, fun i h0 h1 => by rw [(gr_cx g c2 (181, -1) (by decide) (L := 181) rfl (Or.inl rfl) q1 (by decide))]; exact gr_lab g (q3 i h0 h1) (by decide)⟩)))
    · exact Or.inr (Or.inr (Or.inr (Or.inl (⟨gr_lab g q1 (by decide), q2, fun i h0 h1 => by rw [(gr_cx g c2 (182, -1) (by decide) (L := 182) rfl (Or.inl rfl) q1 (by decide))]; exact gr_lab g (q3 i h0 h1) (by decide)⟩))))
    · exact Or.inr (Or.inr (Or.inr (Or.inr (Or.inl (⟨gr_lab g q1 (by decide), q2, fun i h0 h1 => by rw [(gr_cx g c2 (183, -1) (by decide) (L := 183) rfl (Or.inl rfl) q1 (by decide))]; exact gr_lab g (q3 i h0 h1) (by decide)⟩)))))
    · exact Or.inr (Or.inr (Or.inr (Or.inr (Or.inr (Or.inl (⟨gr_lab g q1 (by decide), q2, fun i h0 h1 => by rw [(gr_cx g c2 (184, -1) (by decide) (L := 184) rfl (Or.inl rfl) q1 (by decide))]; exact gr_lab g (q3 i h0 h1) (by decide)⟩))))))
    · exact Or.inr (Or.inr (Or.inr (Or.inr (Or.inr (Or.inr (⟨gr_lab g q1 (by decide), q2, fun i h0 h1 => by rw [(gr_cx g c2 (185, -1) (by decide) (L := 185) rfl (Or.inl rfl) q1 (by decide))]; exact gr_lab g (q3 i h0 h1) (by decide)⟩))))))
  · intro t ht i h0 h1 hh
    have ht := gr_bk g c1 rfl ht
    rw [(gr_cx g c2 (136, 3) (by decide) (L := 136) (j := 3) rfl (Or.inr rfl) ht (by decide)), (gr_cx g c2 (120, -1) (by decide) (L := 120) rfl (Or.inl rfl) (tk t ht).1 (by decide))] at hh
    rw [(gr_cx g c2 (136, 5) (by decide) (L := 136) (j := 5) rfl (Or.inr rfl) ht (by decide)), (gr_cx g c2 (121, -1) (by decide) (L := 121) rfl (Or.inl rfl) (tk t ht).2 (by decide))]
    exact a7 t ht i h0 h1 hh
  · intro t u ht hu hh
    have ht := gr_bk g c1 rfl ht
    have hu := gr_bk g c1 rfl hu
    rw [(gr_cx g c2 (136, 3) (by decide) (L := 136) (j := 3) rfl (Or.inr rfl) ht (by decide)), (gr_cx g c2 (136, 3) (by decide) (L := 136) (j := 3) rfl (Or.inr rfl) hu (by decide)), (gr_cx g c2 (136, 5) (by decide) (L := 136) (j := 5) rfl (Or.inr rfl) ht (by decide)), (gr_cx g c2 (136, 5) (by decide) (L := 136) (j := 5) rfl (Or.inr rfl) hu (by decide))] at hh
    exact a8 t u ht hu hh
  · intro p l hp hl
    have hp := gr_bk g c1 rfl hp
    have hl := gr_bk g c1 rfl hl
    rw [(gr_cx g c2 (138, 2) (by decide) (L := 138) (j := 2) rfl (Or.inr rfl) hp (by decide)), (gr_cx g c2 (156, 2) (by decide) (L := 156) (j := 2) rfl (Or.inr rfl) hl (by decide))]
    exact a9 p l hp hl
def cif2 : List (Int × Int) := [(120, -1), (121, -1), (136, 3), (136, 5), (138, 2), (154, 1), (154, 2), (155, 1), (155, 2), (157, 1), (157, 2), (158, 1), (158, 2), (159, 1), (159, 2), (160, -1), (161, -1), (162, -1), (163, -1), (164, -1), (165, -1), (166, -1), (167, -1), (168, -1), (169, -1), (173, -1), (174, -1), (175, -1), (176, -1), (177, -1), (178, -1), (179, -1), (180, -1), (181, -1), (182, -1), (183, -1), (184, -1), (185, -1)]
theorem ci_ad2 (h : CI E S G) (tk : TKP S G) (g : Gr nl ws S G S' G') (c1 : nlk nl = true) (c2 : djx cif2 ws = true) (hS : S a = 156) (lb : LB2 E S' G' a) (hz : G 156 a 2 ≤ G' 156 a 2) : CI E S' G' := by
  obtain ⟨a0, a1, a2, a3, a4, a5, a6, a7, a8, a9⟩ := h
  refine ⟨?_, ?_, ?_, ?_, ?_, ?_, ?_, ?_, ?_, ?_⟩
  · intro a b hab hu
    have ha := gr_bk g c1 (by unfold cil; rw [hu]; rfl) (rfl : S' a = S' a)
    have hb := gr_bk g c1 (by unfold cil; rw [hu]; rfl) hab.symm
    exact a0 a b (ha.trans hb.symm) (by rw [ha]; exact hu)
  · intro l hl
    have hl := gr_bk g c1 rfl hl
    rw [(gr_cx g c2 (154, 1) (by decide) (L := 154) (j := 1) rfl (Or.inr rfl) hl (by decide)), (gr_cx g c2 (154, 2) (by decide) (L := 154) (j := 2) rfl (Or.inr rfl) hl (by decide))]
    rcases a1 l hl with q | ⟨q1, q2, q3⟩ | ⟨q1, q2, q3⟩ | ⟨q1, q2, q3⟩ | ⟨q1, q2, q3⟩ | ⟨q1, q2, q3⟩
    · exact Or.inl q
    · exact Or.inr (Or.inl (⟨gr_lab g q1 (by decide), q2, fun i h0 h1 => by rw [(gr_cx g c2 (160, -1) (by decide) (L := 160) rfl (Or.inl rfl) q1 (by decide))]; exact gr_lab g (q3 i h0 h1) (by decide)⟩))
    · exact Or.inr (Or.inr (Or.inl (⟨gr_lab g q1 (by decide), q2, fun i h0 h1 => by rw [(gr_cx g c2 (161, -1) (by decide) (L := 161) rfl (Or.inl rfl) q1 (by decide))]; exact gr_lab g (q3 i h0 h1) (by decide)⟩)))
    · exact Or.inr (Or.inr (Or.inr (Or.inl (⟨gr_lab g q1 (by decide), q2, fun i h0 h1 => by rw [(gr_cx g c2 (162, -1) (by decide) (L := 162) rfl (Or.inl rfl) q1 (by decide))]; exact gr_lab g (q3 i h0 h1) (by decide)⟩))))
    · exact Or.inr (Or.inr (Or.inr (Or.inr (Or.inl (⟨gr_lab g q1 (by decide), q2, fun i h0 h1 => by rw [(gr_cx g c2 (163, -1) (by decide) (L := 163) rfl (Or.inl rfl) q1 (by decide))]; exact gr_lab g (q3 i h0 h1) (by decide)⟩)))))
    · exact Or.inr (Or.inr (Or.inr (Or.inr (Or.inr (⟨gr_lab g q1 (by decide), q2, fun i h0 h1 => by rw [(gr_cx g c2 (164, -1) (by decide) (L := 164) rfl (Or.inl rfl) q1 (by decide))]; exact gr_lab g (q3 i h0 h1) (by decide)⟩)))))
  · intro l hl
    have hl := gr_bk g c1 rfl hl
    rw [(gr_cx g c2 (155, 1) (by decide) (L := 155) (j := 1) rfl (Or.inr rfl) hl (by decide)), (gr_cx g c2 (155, 2) (by decide) (L := 155) (j := 2) rfl (Or.inr rfl) hl (by decide))]
    rcases a2 l hl with q | ⟨q1, q2, q3⟩ | ⟨q1, q2, q3⟩ | ⟨q1, q2, q3⟩ | ⟨q1, q2, q3⟩ | ⟨q1, q2, q3⟩
    · exact Or.inl q
    · exact Or.inr (Or.inl (⟨gr_lab g q1 (by decide), q2, fun i h0 h1 => by rw [(gr_cx g c2 (165, -1) (by decide) (L := 165) rfl (Or.inl rfl) q1 (by decide))]; exact gr_lab g (q3 i h0 h1) (by decide)⟩))
    · exact Or.inr (Or.inr (Or.inl (⟨gr_lab g q1 (by decide), q2, fun i h0 h1 => by rw [(gr_cx g c2 (166, -1) (by decide) (L := 166) rfl (Or.inl rfl) q1 (by decide))]; exact gr_lab g (q3 i h0 h1) (by decide)⟩)))
    · exact Or.inr (Or.inr (Or.inr (Or.inl (⟨gr_lab g q1 (by decide), q2, fun i h0 h1 => by rw [(gr_cx g c2 (167, -1) (by decide) (L := 167) rfl (Or.inl rfl) q1 (by decide))]; exact gr_lab g (q3 i h0 h1) (by decide)⟩))))
    · exact Or.inr (Or.inr (Or.inr (Or.inr (Or.inl (⟨gr_lab g q1 (by decide), q2, fun i h0 h1 => by rw [(gr_cx g c2 (168, -1) (by decide) (L := 168) rfl (Or.inl rfl) q1 (by decide))]; exact gr_lab g (q3 i h0 h1) (by decide)⟩)))))
    · exact Or.inr (Or.inr (Or.inr (Or.inr (Or.inr (⟨gr_lab g q1 (by decide), q2, fun i h0 h1 => by rw [(gr_cx g c2 (169, -1) (by decide) (L := 169) rfl (Or.inl rfl) q1 (by decide))]; exact gr_lab g (q3 i h0 h1) (by decide)⟩)))))
  · intro l hl
    have hl := gr_bk g c1 rfl hl
    rw [a0 l a (hl.trans hS.symm) (by rw [hl]; rfl)]
    exact lb
  · intro l hl
    have hl := gr_bk g c1 rfl hl
    rw [(gr_cx g c2 (157, 1) (by decide) (L := 157) (j := 1) rfl (Or.inr rfl) hl (by decide)), (gr_cx g c2 (157, 2) (by decide) (L := 157) (j := 2) rfl (Or.inr rfl) hl (by decide))]
    rcases a4 l hl with q | ⟨q1, q2, q3⟩ | ⟨q1, q2, q3⟩ | ⟨q1, q2, q3⟩ | ⟨q1, q2, q3⟩ | ⟨q1, q2, q3⟩ | ⟨q1, q2, q3⟩
    · exact Or.inl q
    · exact Or.inr (Or.inl (⟨gr_lab g q1 (by decide), q2, fun i h0 h1 => by rw [(gr_cx g c2 (173, -1) (by decide) (L := 173) rfl (Or.inl rfl) q1 (by decide))]; exact gr_lab g (q3 i h0 h1) (by decide)⟩))
    · exact Or.inr (Or.inr (Or.inl (⟨gr_lab g q1 (by decide), q2, fun i h0 h1 => by rw [(gr_cx g c2 (174, -1) (by decide) (L := 174) rfl (Or.inl rfl) q1 (by decide))]; exact gr_lab g (q3 i h0 h1) (by decide)⟩)))
    · exact Or.inr (Or.inr (Or.inr (Or.inl (⟨gr_lab g q1 (by decide), q2, fun i h0 h1 => by rw [(gr_cx g c2 (175, -1) (by decide) (L := 175) rfl (Or.inl rfl) q1 (by decide))]; exact gr_lab g (q3 i h0 h1) (by decide)⟩))))
    · exact Or.inr (Or.inr (Or.inr (Or.inr (Or.inl (⟨gr_lab g q1 (by decide), q2, fun i h0 h1 => by rw [(gr_cx g c2 (176, -1) (by decide) (L := 176) rfl (Or.inl rfl) q1 (by decide))]; exact gr_lab g (q3 i h0 h1) (by decide)⟩)))))
    · exact Or.inr (Or.inr (Or.inr (Or.inr (Or.inr (Or.inl (⟨gr_lab g q1 (by decide), q2, fun i h0 h1 => by rw [(gr_cx g c2 (177, -1) (by decide) (L := 177) rfl (Or.inl rfl) q1 (by decide))]; exact gr_lab g (q3 i h0 h1) (by decide)⟩))))))
    · exact Or.inr (Or.inr (Or.inr (Or.inr (Or.inr (Or.inr (⟨gr_lab g q1 (by decide), q2, fun i h0 h1 => by rw [(gr_cx g c2 (178, -1) (by decide) (L := 178) rfl (Or.inl rfl) q1 (by decide))]; exact gr_lab g (q3 i h0 h1) (by decide)⟩))))))
  · intro l hl
    have hl := gr_bk g c1 rfl hl
    rw [(gr_cx g c2 (158, 1) (by decide) (L := 158) (j := 1) rfl (Or.inr rfl) hl (by decide)), (gr_cx g c2 (158, 2) (by decide) (L := 158) (j := 2) rfl (Or.inr rfl) hl (by decide))]
    rcases a5 l hl with q | ⟨q1, q2, q3⟩
    · exact Or.inl q
    · exact Or.inr (⟨gr_lab g q1 (by decide), q2, fun i h0 h1 => by rw [(gr_cx g c2 (179, -1) (by decide) (L := 179) rfl (Or.inl rfl) q1 (by decide))]; exact gr_lab g (q3 i h0 h1) (by decide)⟩)
  · intro l hl
    have hl := gr_bk g c1 rfl hl
    rw [(gr_cx g c2 (159, 1) (by decide) (L := 159) (j := 1) rfl (Or.inr rfl) hl (by decide)), (gr_cx g c2 (159, 2) (by decide) (L := 159) (j := 2) rfl (Or.inr rfl) hl (by decide))]
    rcases a6 l hl with q | ⟨q1, q2, q3⟩ | ⟨q1, q2, q3⟩ | ⟨q1, q2, q3⟩ | ⟨q1, q2, q3⟩ | ⟨q1, q2, q3⟩ | ⟨q1, q2, q3⟩
    · exact Or.inl q
    · exact Or.inr (Or.inl (⟨gr_lab g q1 (by decide), q2, fun i h0 h1 => by rw [(gr_cx g c2 (180, -1) (by decide) (L := 180) rfl (Or.inl rfl) q1 (by decide))]; exact gr_lab g (q3 i h0 h1) (by decide)⟩))
    · exact Or.inr (Or.inr (Or.inl (⟨gr_lab g q1 (by decide), q2, fun i h0 h1 => by rw [(gr_cx g c2 (181, -1) (by decide) (L := 181) rfl (Or.inl rfl) q1 (by decide))]; exact gr_lab g (q3 i h0 h1) (by decide)⟩)))
    · exact Or.inr (Or.inr (Or.inr (Or.inl (⟨gr_lab g q1 (by decide), q2, fun i h0 h1 => by rw [(gr_cx g c2 (182, -1) (by decide) (L := 182) rfl (Or.inl rfl) q1 (by decide))]; exact gr_lab g (q3 i h0 h1) (by decide)⟩))))
    · exact Or.inr (Or.inr (Or.inr (Or.inr (Or.inl (⟨gr_lab g q1 (by decide), q2, fun i h0 h1 => by rw [(gr_cx g c2 (183, -1) (by decide) (L := 183) rfl (Or.inl rfl) q1 (by decide))]; exact gr_lab g (q3 i h0 h1) (by decide)⟩)))))
    · exact Or.inr (Or.inr (Or.inr (Or.inr (Or.inr (Or.inl (⟨gr_lab g q1 (by decide), q2, fun i h0 h1 => by rw [(gr_cx g c2 (184, -1) (by decide) (L := 184) rfl (Or.inl rfl) q1 (by decide))]; exact gr_lab g (q3 i h0 h1) (by decide)⟩))))))
    · exact Or.inr (Or.inr (Or.inr (Or.inr (Or.inr (Or.inr (⟨gr_lab g q1 (by decide), q2, fun i h0 h1 => by rw [(gr_cx g c2 (185, -1) (by decide) (L := 185) rfl (Or.inl rfl) q1 (by decide))]; exact gr_lab g (q3 i h0 h1) (by decide)⟩))))))
  · intro t ht i h0 h1 hh
    have ht := gr_bk g c1 rfl ht
    rw [(gr_cx g c2 (136, 3) (by decide) (L := 136) (j := 3) rfl (Or.inr rfl) ht (by decide)), (gr_cx g c2 (120, -1) (by decide) (L := 120) rfl (Or.inl rfl) (tk t ht).1 (by decide))] at hh
    rw [(gr_cx g c2 (136, 5) (by decide) (L := 136) (j := 5) rfl (Or.inr rfl) ht (by decide)), (gr_cx g c2 (121, -1) (by decide) (L := 121) rfl (Or.inl rfl) (tk t ht).2 (by decide))]
    exact a7 t ht i h0 h1 hh
  · intro t u ht hu hh
    have ht := gr_bk g c1 rfl ht
    have hu := gr_bk g c1 rfl hu
    rw [(gr_cx g c2 (136, 3) (by decide) (L := 136) (j := 3) rfl (Or.inr rfl) ht (by decide)), (gr_cx g c2 (136, 3) (by decide) (L := 136) (j := 3) rfl (Or.inr rfl) hu (by decide)), (gr_cx g c2 (136, 5) (by decide) (L := 136) (j := 5) rfl (Or.inr rfl) ht (by decide)), (gr_cx g c2 (136, 5) (by decide) (L := 136) (j := 5) rfl (Or.inr rfl) hu (by decide))] at hh
    exact a8 t u ht hu hh
  · intro p l hp hl
    have hp := gr_bk g c1 rfl hp
    have hl := gr_bk g c1 rfl hl
    rw [(gr_cx g c2 (138, 2) (by decide) (L := 138) (j := 2) rfl (Or.inr rfl) hp (by decide))]
    have e := a0 l a (hl.trans hS.symm) (by rw [hl]; rfl)
    rw [e]
    have q := a9 p a hp hS
    omega
def cif3 : List (Int × Int) := [(120, -1), (121, -1), (136, 3), (136, 5), (138, 2), (154, 1), (154, 2), (155, 1), (155, 2), (156, 1), (156, 2), (158, 1), (158, 2), (159, 1), (159, 2), (160, -1), (161, -1), (162, -1), (163, -1), (164, -1), (165, -1), (166, -1), (167, -1), (168, -1), (169, -1), (170, -1), (171, -1), (172, -1), (179, -1), (180, -1), (181, -1), (182, -1), (183, -1), (184, -1), (185, -1)]
theorem ci_ad3 (h : CI E S G) (tk : TKP S G) (g : Gr nl ws S G S' G') (c1 : nlk nl = true) (c2 : djx cif3 ws = true) (hS : S a = 157) (lb : LB3 E S' G' a) (hz : G 157 a 2 ≤ G' 157 a 2) : CI E S' G' := by
  obtain ⟨a0, a1, a2, a3, a4, a5, a6, a7, a8, a9⟩ := h
  refine ⟨?_, ?_, ?_, ?_, ?_, ?_, ?_, ?_, ?_, ?_⟩
  · intro a b hab hu
    have ha := gr_bk g c1 (by unfold cil; rw [hu]; rfl) (rfl : S' a = S' a)
    have hb := gr_bk g c1 (by unfold cil; rw [hu]; rfl) hab.symm
    exact a0 a b (ha.trans hb.symm) (by rw [ha]; exact hu)
  · intro l hl
    have hl := gr_bk g c1 rfl hl
    rw [(gr_cx g c2 (154, 1) (by decide) (L := 154) (j := 1) rfl (Or.inr rfl) hl (by decide)), (gr_cx g c2 (154, 2) (by decide) (L := 154) (j := 2) rfl (Or.inr rfl) hl (by decide))]
    rcases a1 l hl with q | ⟨q1, q2, q3⟩ | ⟨q1, q2, q3⟩ | ⟨q1, q2, q3⟩ | ⟨q1, q2, q3⟩ | ⟨q1, q2, q3⟩
    · exact Or.inl q
    · exact Or.inr (Or.inl (⟨gr_lab g q1 (by decide), q2, fun i h0 h1 => by rw [(gr_cx g c2 (160, -1) (by decide) (L := 160) rfl (Or.inl rfl) q1 (by decide))]; exact gr_lab g (q3 i h0 h1) (by decide)⟩))
    · exact Or.inr (Or.inr (Or.inl (⟨gr_lab g q1 (by decide), q2, fun i h0 h1 => by rw [(gr_cx g c2 (161, -1) (by decide) (L := 161) rfl (Or.inl rfl) q1 (by decide))]; exact gr_lab g (q3 i h0 h1) (by decide)⟩)))
    · exact Or.inr (Or.inr (Or.inr (Or.inl (⟨gr_lab g q1 (by decide), q2, fun i h0 h1 => by rw [(gr_cx g c2 (162, -1) (by decide) (L := 162) rfl (Or.inl rfl) q1 (by decide))]; exact gr_lab g (q3 i h0 h1) (by decide)⟩))))
    · exact Or.inr (Or.inr (Or.inr (Or.inr (Or.inl (⟨gr_lab g q1 (by decide), q2, fun i h0 h1 => by rw [(gr_cx g c2 (163, -1) (by decide) (L := 163) rfl (Or.inl rfl) q1 (by decide))]; exact gr_lab g (q3 i h0 h1) (by decide)⟩)))))
    · exact Or.inr (Or.inr (Or.inr (Or.inr (Or.inr (⟨gr_lab g q1 (by decide), q2, fun i h0 h1 => by rw [(gr_cx g c2 (164, -1) (by decide) (L := 164) rfl (Or.inl rfl) q1 (by decide))]; exact gr_lab g (q3 i h0 h1) (by decide)⟩)))))
  · intro l hl
    have hl := gr_bk g c1 rfl hl
    rw [(gr_cx g c2 (155, 1) (by decide) (L := 155) (j := 1) rfl (Or.inr rfl) hl (by decide)), (gr_cx g c2 (155, 2) (by decide) (L := 155) (j := 2) rfl (Or.inr rfl) hl (by decide))]
    rcases a2 l hl with q | ⟨q1, q2, q3⟩ | ⟨q1, q2, q3⟩ | ⟨q1, q2, q3⟩ | ⟨q1, q2, q3⟩ | ⟨q1, q2, q3⟩
    · exact Or.inl q
    · exact Or.inr (Or.inl (⟨gr_lab g q1 (by decide), q2, fun i h0 h1 => by rw [(gr_cx g c2 (165, -1) (by decide) (L := 165) rfl (Or.inl rfl) q1 (by decide))]; exact gr_lab g (q3 i h0 h1) (by decide)⟩))
    · exact Or.inr (Or.inr (Or.inl (⟨gr_lab g q1 (by decide), q2, fun i h0 h1 => by rw [(gr_cx g c2 (166, -1) (by decide) (L := 166) rfl (Or.inl rfl) q1 (by decide))]; exact gr_lab g (q3 i h0 h1) (by decide)⟩)))
    · exact Or.inr (Or.inr (Or.inr (Or.inl (⟨gr_lab g q1 (by decide), q2, fun i h0 h1 => by rw [(gr_cx g c2 (167, -1) (by decide) (L := 167) rfl (Or.inl rfl) q1 (by decide))]; exact gr_lab g (q3 i h0 h1) (by decide)⟩))))
    · exact Or.inr (Or.inr (Or.inr (Or.inr (Or.inl (⟨gr_lab g q1 (by decide), q2, fun i h0 h1 => by rw [(gr_cx g c2 (168, -1) (by decide) (L := 168) rfl (Or.inl rfl) q1 (by decide))]; exact gr_lab g (q3 i h0 h1) (by decide)⟩)))))
    · exact Or.inr (Or.inr (Or.inr (Or.inr (Or.inr (⟨gr_lab g q1 (by decide), q2, fun i h0 h1 => by rw [(gr_cx g c2 (169, -1) (by decide) (L := 169) rfl (Or.inl rfl) q1 (by decide))]; exact gr_lab g (q3 i h0 h1) (by decide)⟩)))))
  · intro l hl
    have hl := gr_bk g c1 rfl hl
    rw [(gr_cx g c2 (156, 1) (by decide) (L := 156) (j := 1) rfl (Or.inr rfl) hl (by decide)), (gr_cx g c2 (156, 2) (by decide) (L := 156) (j := 2) rfl (Or.inr rfl) hl (by decide))]
    rcases a3 l hl with q | ⟨q1, q2, q3⟩ | ⟨q1, q2, q3⟩ | ⟨q1, q2, q3⟩
    · exact Or.inl q
    · exact Or.inr (Or.inl (⟨gr_lab g q1 (by decide), q2, fun i h0 h1 => by rw [(gr_cx g c2 (170, -1) (by decide) (L := 170) rfl (Or.inl rfl) q1 (by decide))]; exact gr_lab g (q3 i h0 h1) (by decide)⟩))
    · exact Or.inr (Or.inr (Or.inl (⟨gr_lab g q1 (by decide), q2, fun i h0 h1 => by rw [(gr_cx g c2 (171, -1) (by decide) (L := 171) rfl (Or.inl rfl) q1 (by decide))]; exact gr_lab g (q3 i h0 h1) (by decide)⟩)))
    · exact Or.inr (Or.inr (Or.inr (⟨gr_lab g q1 (by decide), q2, fun i h0 h1 => by rw [(gr_cx g c2 (172, -1) (by decide) (L := 172) rfl (Or.inl rfl) q1 (by decide))]; exact gr_lab g (q3 i h0 h1) (by decide)⟩)))
  · intro l hl
    have hl := gr_bk g c1 rfl hl
    rw [a0 l a (hl.trans hS.symm) (by rw [hl]; rfl)]
    exact lb
  · intro l hl
    have hl := gr_bk g c1 rfl hl
    rw [(gr_cx g c2 (158, 1) (by decide) (L := 158) (j := 1) rfl (Or.inr rfl) hl (by decide)), (gr_cx g c2 (158, 2) (by decide) (L := 158) (j := 2) rfl (Or.inr rfl) hl (by decide))]
    rcases a5 l hl with q | ⟨q1, q2, q3⟩
    · exact Or.inl q
    · exact Or.inr (⟨gr_lab g q1 (by decide), q2, fun i h0 h1 => by rw [(gr_cx g c2 (179, -1) (by decide) (L := 179) rfl (Or.inl rfl) q1 (by decide))]; exact gr_lab g (q3 i h0 h1) (by decide)⟩)
  · intro l hl
    have hl := gr_bk g c1 rfl hl
    rw [(gr_cx g c2 (159, 1) (by decide) (L := 159) (j := 1) rfl (Or.inr rfl) hl (by decide)), (gr_cx g c2 (159, 2) (by decide) (L := 159) (j := 2) rfl (Or.inr rfl) hl (by decide))]
    rcases a6 l hl with q | ⟨q1, q2, q3⟩ | ⟨q1, q2, q3⟩ | ⟨q1, q2, q3⟩ | ⟨q1, q2, q3⟩ | ⟨q1, q2, q3⟩ | ⟨q1, q2, q3⟩
    · exact Or.inl q
    · exact Or.inr (Or.inl (⟨gr_lab g q1 (by decide), q2, fun i h0 h1 => by rw [(gr_cx g c2 (180, -1) (by decide) (L := 180) rfl (Or.inl rfl) q1 (by decide))]; exact gr_lab g (q3 i h0 h1) (by decide)⟩))
    · exact Or.inr (Or.inr (Or.inl (⟨gr_lab g q1 (by decide), q2, fun i h0 h1 => by rw [(gr_cx g c2 (181, -1) (by decide) (L := 181) rfl (Or.inl rfl) q1 (by decide))]; exact gr_lab g (q3 i h0 h1) (by decide)⟩)))
    · exact Or.inr (Or.inr (Or.inr (Or.inl (⟨gr_lab g q1 (by decide), q2, fun i h0 h1 => by rw [(gr_cx g c2 (182, -1) (by decide) (L := 182) rfl (Or.inl rfl) q1 (by decide))]; exact gr_lab g (q3 i h0 h1) (by decide)⟩))))
    · exact Or.inr (Or.inr (Or.inr (Or.inr (Or.inl (⟨gr_lab g q1 (by decide), q2, fun i h0 h1 => by rw [(gr_cx g c2 (183, -1) (by decide) (L := 183) rfl (Or.inl rfl) q1 (by decide))]; exact gr_lab g (q3 i h0 h1) (by decide)⟩)))))
    · exact Or.inr (Or.inr (Or.inr (Or.inr (Or.inr (Or.inl (⟨gr_lab g q1 (by decide), q2, fun i h0 h1 => by rw [(gr_cx g c2 (184, -1) (by decide) (L := 184) rfl (Or.inl rfl) q1 (by decide))]; exact gr_lab g (q3 i h0 h1) (by decide)⟩))))))
    · exact Or.inr (Or.inr (Or.inr (Or.inr (Or.inr (Or.inr (⟨gr_lab g q1 (by decide), q2, fun i h0 h1 => by rw [(gr_cx g c2 (185, -1) (by decide) (L := 185) rfl (Or.inl rfl) q1 (by decide))]; exact gr_lab g (q3 i h0 h1) (by decide)⟩))))))
  · intro t ht i h0 h1 hh
    have ht := gr_bk g c1 rfl ht
    rw [(gr_cx g c2 (136, 3) (by decide) (L := 136) (j := 3) rfl (Or.inr rfl) ht (by decide)), (gr_cx g c2 (120, -1) (by decide) (L := 120) rfl (Or.inl rfl) (tk t ht).1 (by decide))] at hh
    rw [(gr_cx g c2 (136, 5) (by decide) (L := 136) (j := 5) rfl (Or.inr rfl) ht (by decide)), (gr_cx g c2 (121, -1) (by decide) (L := 121) rfl (Or.inl rfl) (tk t ht).2 (by decide))]
    exact a7 t ht i h0 h1 hh
  · intro t u ht hu hh
    have ht := gr_bk g c1 rfl ht
    have hu := gr_bk g c1 rfl hu
    rw [(gr_cx g c2 (136, 3) (by decide) (L := 136) (j := 3) rfl (Or.inr rfl) ht (by decide)), (gr_cx g c2 (136, 3) (by decide) (L := 136) (j := 3) rfl (Or.inr rfl) hu (by decide)), (gr_cx g c2 (136, 5) (by decide) (L := 136) (j := 5) rfl (Or.inr rfl) ht (by decide)), (gr_cx g c2 (136, 5) (by decide) (L := 136) (j := 5) rfl (Or.inr rfl) hu (by decide))] at hh
    exact a8 t u ht hu hh
  · intro p l hp hl
    have hp := gr_bk g c1 rfl hp
    have hl := gr_bk g c1 rfl hl
    rw [(gr_cx g c2 (138, 2) (by decide) (L := 138) (j := 2) rfl (Or.inr rfl) hp (by decide)), (gr_cx g c2 (156, 2) (by decide) (L := 156) (j := 2) rfl (Or.inr rfl) hl (by decide))]
    exact a9 p l hp hl
def cif4 : List (Int × Int) := [(120, -1), (121, -1), (136, 3), (136, 5), (138, 2), (154, 1), (154, 2), (155, 1), (155, 2), (156, 1), (156, 2), (157, 1), (157, 2), (159, 1), (159, 2), (160, -1), (161, -1), (162, -1), (163, -1), (164, -1), (165, -1), (166, -1), (167, -1), (168, -1), (169, -1), (170, -1), (171, -1), (172, -1), (173, -1), (174, -1), (175, -1), (176, -1), (177, -1), (178, -1), (180, -1), (181, -1), (182, -1), (183, -1), (184, -1), (185, -1)]
theorem ci_ad4 (h : CI E S G) (tk : TKP S G) (g : Gr nl ws S G S' G') (c1 : nlk nl = true) (c2 : djx cif4 ws = true) (hS : S a = 158) (lb : LB4 E S' G' a) (hz : G 158 a 2 ≤ G' 158 a 2) : CI E S' G' := by
  obtain ⟨a0, a1, a2, a3, a4, a5, a6, a7, a8, a9⟩ := h
  refine ⟨?_, ?_, ?_, ?_, ?_, ?_, ?_, ?_, ?_, ?_⟩
  · intro a b hab hu
    have ha := gr_bk g c1 (by unfold cil; rw [hu]; rfl) (rfl : S' a = S' a)
    have hb := gr_bk g c1 (by unfold cil; rw [hu]; rfl) hab.symm
    exact a0 a b (ha.trans hb.symm) (by rw [ha]; exact hu)
  · intro l hl
    have hl := gr_bk g c1 rfl hl
    rw [(gr_cx g c2 (154, 1) (by decide) (L := 154) (j := 1) rfl (Or.inr rfl) hl (by decide)), (gr_cx g c2 (154, 2) (by decide) (L := 154) (j := 2) rfl (Or.inr rfl) hl (by decide))]
    rcases a1 l hl with q | ⟨q1, q2, q3⟩ | ⟨q1, q2, q3⟩ | ⟨q1, q2, q3⟩ | ⟨q1, q2, q3⟩ | ⟨q1, q2, q3⟩
    · exact Or.inl q
    · exact Or.inr (Or.inl (⟨gr_lab g q1 (by decide), q2, fun i h0 h1 => by rw [(gr_cx g c2 (160, -1) (by decide) (L := 160) rfl (Or.inl rfl) q1 (by decide))]; exact gr_lab g (q3 i h0 h1) (by decide)⟩))
    · exact Or.inr (Or.inr (Or.inl (⟨gr_lab g q1 (by decide), q2, fun i h0 h1 => by rw [(gr_cx g c2 (161, -1) (by decide) (L := 161) rfl (Or.inl rfl) q1 (by decide))]; exact gr_lab g (q3 i h0 h1) (by decide)⟩)))
    · exact Or.inr (Or.inr (Or.inr (Or.inl (⟨gr_lab g q1 (by decide), q2, fun i h0 h1 => by rw [(gr_cx g c2 (162, -1) (by decide) (L := 162) rfl (Or.inl rfl) q1 (by decide))]; exact gr_lab g (q3 i h0 h1) (by decide)⟩))))
    · exact Or.inr (Or.inr (Or.inr (Or.inr (Or.inl (⟨gr_lab g q1 (by decide), q2, fun i h0 h1 => by rw [(gr_cx g c2 (163, -1) (by decide) (L := 163) rfl (Or.inl rfl) q1 (by decide))]; exact gr_lab g (q3 i h0 h1) (by decide)⟩)))))
    · exact Or.inr (Or.inr (Or.inr (Or.inr (Or.inr (⟨gr_lab g q1 (by decide), q2, fun i h0 h1 => by rw [(gr_cx g c2 (164, -1) (by decide) (L := 164) rfl (Or.inl rfl) q1 (by decide))]; exact gr_lab g (q3 i h0 h1) (by decide)⟩)))))
  · intro l hl
    have hl := gr_bk g c1 rfl hl
    rw [(gr_cx g c2 (155, 1) (by decide) (L := 155) (j := 1) rfl (Or.inr rfl) hl (by decide)), (gr_cx g c2 (155, 2) (by decide) (L := 155) (j := 2) rfl (Or.inr rfl) hl (by decide))]
    rcases a2 l hl with q | ⟨q1, q2, q3⟩ | ⟨q1, q2, q3⟩ | ⟨q1, q2, q3⟩ | ⟨q1, q2, q3⟩ | ⟨q1, q2, q3⟩
    · exact Or.inl q
    · exact Or.inr (Or.inl (⟨gr_lab g q1 (by decide), q2, fun i h0 h1 => by rw [(gr_cx g c2 (165, -1) (by decide) (L := 165) rfl (Or.inl rfl) q1 (by decide))]; exact gr_lab g (q3 i h0 h1) (by decide)⟩))
    · exact Or.inr (Or.inr (Or.inl (⟨gr_lab g q1 (by decide), q2, fun i h0 h1 => by rw [(gr_cx g c2 (166, -1) (by decide) (L := 166) rfl (Or.inl rfl) q1 (by decide))]; exact gr_lab g (q3 i h0 h1) (by decide)⟩)))
    · exact Or.inr (Or.inr (Or.inr (Or.inl (⟨gr_lab g q1 (by decide), q2, fun i h0 h1 => by rw [(gr_cx g c2 (167, -1) (by decide) (L := 167) rfl (Or.inl rfl) q1 (by decide))]; exact gr_lab g (q3 i h0 h1) (by decide)⟩))))
    · exact Or.inr (Or.inr (Or.inr (Or.inr (Or.inl (⟨gr_lab g q1 (by decide), q2, fun i h0 h1 => by rw [(gr_cx g c2 (168, -1) (by decide) (L := 168) rfl (Or.inl rfl) q1 (by decide))]; exact gr_lab g (q3 i h0 h1) (by decide)⟩)))))
    · exact Or.inr (Or.inr (Or.inr (Or.inr (Or.inr (⟨gr_lab g q1 (by decide), q2, fun i h0 h1 => by rw [(gr_cx g c2 (169, -1) (by decide) (L := 169) rfl (Or.inl rfl) q1 (by decide))]; exact gr_lab g (q3 i h0 h1) (by decide)⟩)))))
  · intro l hl
    have hl := gr_bk g c1 rfl hl
    rw [(gr_cx g c2 (156, 1) (by decide) (L := 156) (j := 1) rfl (Or.inr rfl) hl (by decide)), (gr_cx g c2 (156, 2) (by decide) (L := 156) (j := 2) rfl (Or.inr rfl) hl (by decide))]
    rcases a3 l hl with q | ⟨q1, q2, q3⟩ | ⟨q1, q2, q3⟩ | ⟨q1, q2, q3⟩
    · exact Or.inl q
    · exact Or.inr (Or.inl (⟨gr_lab g q1 (by decide), q2, fun i h0 h1 => by rw [(gr_cx g c2 (170, -1) (by decide) (L := 170) rfl (Or.inl rfl) q1 (by decide))]; exact gr_lab g (q3 i h0 h1) (by decide)⟩))
    · exact Or.inr (Or.inr (Or.inl (⟨gr_lab g q1 (by decide), q2, fun i h0 h1 => by rw [(gr_cx g c2 (171, -1) (by decide) (L := 171) rfl (Or.inl rfl) q1 (by decide))]; exact gr_lab g (q3 i h0 h1) (by decide)⟩)))
    · exact Or.inr (Or.inr (Or.inr (⟨gr_lab g q1 (by decide), q2, fun i h0 h1 => by rw [(gr_cx g c2 (172, -1) (by decide) (L := 172) rfl (Or.inl rfl) q1 (by decide))]; exact gr_lab g (q3 i h0 h1) (by decide)⟩)))
  · intro l hl
    have hl := gr_bk g c1 rfl hl
    rw [(gr_cx g c2 (157, 1) (by decide) (L := 157) (j := 1) rfl (Or.inr rfl) hl (by decide)), (gr_cx g c2 (157, 2) (by decide) (L := 157) (j := 2) rfl (Or.inr rfl) hl (by decide))]
    rcases a4 l hl with q | ⟨q1, q2, q3⟩ | ⟨q1, q2, q3⟩ | ⟨q1, q2, q3⟩ | ⟨q1, q2, q3⟩ | ⟨q1, q2, q3⟩ | ⟨q1, q2, q3⟩
    · exact Or.inl q
    · exact Or.inr (Or.inl (⟨gr_lab g q1 (by decide), q2, fun i h0 h1 => by rw [(gr_cx g c2 (173, -1) (by decide) (L := 173) rfl (Or.inl rfl) q1 (by decide))]; exact gr_lab g (q3 i h0 h1) (by decide)⟩))
    · exact Or.inr (Or.inr (Or.inl (⟨gr_lab g q1 (by decide), q2, fun i h0 h1 => by rw [(gr_cx g c2 (174, -1) (by decide) (L := 174) rfl (Or.inl rfl) q1 (by decide))]; exact gr_lab g (q3 i h0 h1) (by decide)⟩)))
    · exact Or.inr (Or.inr (Or.inr (Or.inl (⟨gr_lab g q1 (by decide), q2, fun i h0 h1 => by rw [(gr_cx g c2 (175, -1) (by decide) (L := 175) rfl (Or.inl rfl) q1 (by decide))]; exact gr_lab g (q3 i h0 h1) (by decide)⟩))))
    · exact Or.inr (Or.inr (Or.inr (Or.inr (Or.inl (⟨gr_lab g q1 (by decide), q2, fun i h0 h1 => by rw [(gr_cx g c2 (176, -1) (by decide) (L := 176) rfl (Or.inl rfl) q1 (by decide))]; exact gr_lab g (q3 i h0 h1) (by decide)⟩)))))
    · exact Or.inr (Or.inr (Or.inr (Or.inr (Or.inr (Or.inl (⟨gr_lab g q1 (by decide), q2, fun i h0 h1 => by rw [(gr_cx g c2 (177, -1) (by decide) (L := 177) rfl (Or.inl rfl) q1 (by decide))]; exact gr_lab g (q3 i h0 h1) (by decide)⟩))))))
    · exact Or.inr (Or.inr (Or.inr (Or.inr (Or.inr (Or.inr (⟨gr_lab g q1 (by decide), q2, fun i h0 h1 => by rw [(gr_cx g c2 (178, -1) (by decide) (L := 178) rfl (Or.inl rfl) q1 (by decide))]; exact gr_lab g (q3 i h0 h1) (by decide)⟩))))))
  · intro l hl
    have hl := gr_bk g c1 rfl hl
    rw [a0 l a (hl.trans hS.symm) (by rw [hl]; rfl)]
    exact lb
  · intro l hl
    have hl := gr_bk g c1 rfl hl
    rw [(gr_cx g c2 (159, 1) (by decide) (L := 159) (j := 1) rfl (Or.inr rfl) hl (by decide)), (gr_cx g c2 (159, 2) (by decide) (L := 159) (j := 2) rfl (Or.inr rfl) hl (by decide))]
    rcases a6 l hl with q | ⟨q1, q2, q3⟩ | ⟨q1, q2, q3⟩ | ⟨q1, q2, q3⟩ | ⟨q1, q2, q3⟩ | ⟨q1, q2, q3⟩ | ⟨q1, q2, q3⟩
    · exact Or.inl q
    · exact Or.inr (Or.inl (⟨gr_lab g q1 (by decide), q2, fun i h0 h1 => by rw [(gr_cx g c2 (180, -1) (by decide) (L := 180) rfl (Or.inl rfl) q1 (by decide))]; exact gr_lab g (q3 i h0 h1) (by decide)⟩))
    · exact Or.inr (Or.inr (Or.inl (⟨gr_lab g q1 (by decide), q2, fun i h0 h1 => by rw [(gr_cx g c2 (181, -1) (by decide) (L := 181) rfl (Or.inl rfl) q1 (by decide))]; exact gr_lab g (q3 i h0 h1) (by decide)⟩)))
    · exact Or.inr (Or.inr (Or.inr (Or.inl (⟨gr_lab g q1 (by decide), q2, fun i h0 h1 => by rw [(gr_cx g c2 (182, -1) (by decide) (L := 182) rfl (Or.inl rfl) q1 (by decide))]; exact gr_lab g (q3 i h0 h1) (by decide)⟩))))
    · exact Or.inr (Or.inr (Or.inr (Or.inr (Or.inl (⟨gr_lab g q1 (by decide), q2, fun i h0 h1 => by rw [(gr_cx g c2 (183, -1) (by decide) (L := 183) rfl (Or.inl rfl) q1 (by decide))]; exact gr_lab g (q3 i h0 h1) (by decide)⟩)))))
    · exact Or.inr (Or.inr (Or.inr (Or.inr (Or.inr (Or.inl (⟨gr_lab g q1 (by decide), q2, fun i h0 h1 => by rw [(gr_cx g c2 (184, -1) (by decide) (L := 184) rfl (Or.inl rfl) q1 (by decide))]; exact gr_lab g (q3 i h0 h1) (by decide)⟩))))))
    · exact Or.inr (Or.inr (Or.inr (Or.inr (Or.inr (Or.inr (⟨gr_lab g q1 (by decide), q2, fun i h0 h1 => by rw [(gr_cx g c2 (185, -1) (by decide) (L := 185) rfl (Or.inl rfl) q1 (by decide))]; exact gr_lab g (q3 i h0 h1) (by decide)⟩))))))
  · intro t ht i h0 h1 hh
    have ht := gr_bk g c1 rfl ht
    rw [(gr_cx g c2 (136, 3) (by decide) (L := 136) (j := 3) rfl (Or.inr rfl) ht (by decide)), (gr_cx g c2 (120, -1) (by decide) (L := 120) rfl (Or.inl rfl) (tk t ht).1 (by decide))] at hh
    rw [(gr_cx g c2 (136, 5) (by decide) (L := 136) (j := 5) rfl (Or.inr rfl) ht (by decide)), (gr_cx g c2 (121, -1) (by decide) (L := 121) rfl (Or.inl rfl) (tk t ht).2 (by decide))]
    exact a7 t ht i h0 h1 hh
  · intro t u ht hu hh
    have ht := gr_bk g c1 rfl ht
    have hu := gr_bk g c1 rfl hu
    rw [(gr_cx g c2 (136, 3) (by decide) (L := 136) (j := 3) rfl (Or.inr rfl) ht (by decide)), (gr_cx g c2 (136, 3) (by decide) (L := 136) (j := 3) rfl (Or.inr rfl) hu (by decide)), (gr_cx g c2 (136, 5) (by decide) (L := 136) (j := 5) rfl (Or.inr rfl) ht (by decide)), (gr_cx g c2 (136, 5) (by decide) (L := 136) (j := 5) rfl (Or.inr rfl) hu (by decide))] at hh
    exact a8 t u ht hu hh
  · intro p l hp hl
    have hp := gr_bk g c1 rfl hp
    have hl := gr_bk g c1 rfl hl
    rw [(gr_cx g c2 (138, 2) (by decide) (L := 138) (j := 2) rfl (Or.inr rfl) hp (by decide)), (gr_cx g c2 (156, 2) (by decide) (L := 156) (j := 2) rfl (Or.inr rfl) hl (by decide))]
    exact a9 p l hp hl
def cif5 : List (Int × Int) := [(120, -1), (121, -1), (136, 3), (136, 5), (138, 2), (154, 1), (154, 2), (155, 1), (155, 2), (156, 1), (156, 2), (157, 1), (157, 2), (158, 1), (158, 2), (160, -1), (161, -1), (162, -1), (163, -1), (164, -1), (165, -1), (166, -1), (167, -1), (168, -1), (169, -1), (170, -1), (171, -1), (172, -1), (173, -1), (174, -1), (175, -1), (176, -1), (177, -1), (178, -1), (179, -1)]
theorem ci_ad5 (h : CI E S G) (tk : TKP S G) (g : Gr nl ws S G S' G') (c1 : nlk nl = true) (c2 : djx cif5 ws = true) (hS : S a = 159) (lb : LB5 E S' G' a) (hz : G 159 a 2 ≤ G' 159 a 2) : CI E S' G' := by
  obtain ⟨a0, a1, a2, a3, a4, a5, a6, a7, a8, a9⟩ := h
  refine ⟨?_, ?_, ?_, ?_, ?_, ?_, ?_, ?_, ?_, ?_⟩
  · intro a b hab hu
    have ha := gr_bk g c1 (by unfold cil; rw [hu]; rfl) (rfl : S' a = S' a)
    have hb := gr_bk g c1 (by unfold cil; rw [hu]; rfl) hab.symm
    exact a0 a b (ha.trans hb.symm) (by rw [ha]; exact hu)
  · intro l hl
    have hl := gr_bk g c1 rfl hl
    rw [(gr_cx g c2 (154, 1) (by decide) (L := 154) (j := 1) rfl (Or.inr rfl) hl (by decide)), (gr_cx g c2 (154, 2) (by decide) (L := 154) (j := 2) rfl (Or.inr rfl) hl (by decide))]
    rcases a1 l hl with q | ⟨q1, q2, q3⟩ | ⟨q1, q2, q3⟩ | ⟨q1, q2, q3⟩ | ⟨q1, q2, q3⟩ | ⟨q1, q2, q3⟩
    · exact Or.inl q
    · exact Or.inr (Or.inl (⟨gr_lab g q1 (by decide), q2, fun i h0 h1 => by rw [(gr_cx g c2 (160, -1) (by decide) (L := 160) rfl (Or.inl rfl) q1 (by decide))]; exact gr_lab g (q3 i h0 h1) (by decide)⟩))
    · exact Or.inr (Or.inr (Or.inl (⟨gr_lab g q1 (by decide), q2, fun i h0 h1 => by rw [(gr_cx g c2 (161, -1) (by decide) (L := 161) rfl (Or.inl rfl) q1 (by decide))]; exact gr_lab g (q3 i h0 h1) (by decide)⟩)))
    · exact Or.inr (Or.inr (Or.inr (Or.inl (⟨gr_lab g q1 (by decide), q2, fun i h0 h1 => by rw [(gr_cx g c2 (162, -1) (by decide) (L := 162) rfl (Or.inl rfl) q1 (by decide))]; exact gr_lab g (q3 i h0 h1) (by decide)⟩))))
    · exact Or.inr (Or.inr (Or.inr (Or.inr (Or.inl (⟨gr_lab g q1 (by decide), q2, fun i h0 h1 => by rw [(gr_cx g c2 (163, -1) (by decide) (L := 163) rfl (Or.inl rfl) q1 (by decide))]; exact gr_lab g (q3 i h0 h1) (by decide)⟩)))))
    · exact Or.inr (Or.inr (Or.inr (Or.inr (Or.inr (⟨gr_lab g q1 (by decide), q2, fun i h0 h1 => by rw [(gr_cx g c2 (164, -1) (by decide) (L := 164) rfl (Or.inl rfl) q1 (by decide))]; exact gr_lab g (q3 i h0 h1) (by decide)⟩)))))
  · intro l hl
    have hl := gr_bk g c1 rfl hl
    rw [(gr_cx g c2 (155, 1) (by decide) (L := 155) (j := 1) rfl (Or.inr rfl) hl (by decide)), (gr_cx g c2 (155, 2) (by decide) (L := 155) (j := 2) rfl (Or.inr rfl) hl (by decide))]
    rcases a2 l hl with q | ⟨q1, q2, q3⟩ | ⟨q1, q2, q3⟩ | ⟨q1, q2, q3⟩ | ⟨q1, q2, q3⟩ | ⟨q1, q2, q3⟩
    · exact Or.inl q
    · exact Or.inr (Or.inl (⟨gr_lab g q1 (by decide), q2, fun i h0 h1 => by rw [(gr_cx g c2 (165, -1) (by decide) (L := 165) rfl (Or.inl rfl) q1 (by decide))]; exact gr_lab g (q3 i h0 h1) (by decide)⟩))
    · exact Or.inr (Or.inr (Or.inl (⟨gr_lab g q1 (by decide), q2, fun i h0 h1 => by rw [(gr_cx g c2 (166, -1) (by decide) (L := 166) rfl (Or.inl rfl) q1 (by decide))]; exact gr_lab g (q3 i h0 h1) (by decide)⟩)))
    · exact Or.inr (Or.inr (Or.inr (Or.inl (⟨gr_lab g q1 (by decide), q2, fun i h0 h1 => by rw [(gr_cx g c2 (167, -1) (by decide) (L := 167) rfl (Or.inl rfl) q1 (by decide))]; exact gr_lab g (q3 i h0 h1) (by decide)⟩))))
    · exact Or.inr (Or.inr (Or.inr (Or.inr (Or.inl (⟨gr_lab g q1 (by decide), q2, fun i h0 h1 => by rw [(gr_cx g c2 (168, -1) (by decide) (L := 168) rfl (Or.inl rfl) q1 (by decide))]; exact gr_lab g (q3 i h0 h1) (by decide)⟩)))))
    · exact Or.inr (Or.inr (Or.inr (Or.inr (Or.inr (⟨gr_lab g q1 (by decide), q2, fun i h0 h1 => by rw [(gr_cx g c2 (169, -1) (by decide) (L := 169) rfl (Or.inl rfl) q1 (by decide))]; exact gr_lab g (q3 i h0 h1) (by decide)⟩)))))
  · intro l hl
    have hl := gr_bk g c1 rfl hl
    rw [(gr_cx g c2 (156, 1) (by decide) (L := 156) (j := 1) rfl (Or.inr rfl) hl (by decide)), (gr_cx g c2 (156, 2) (by decide) (L := 156) (j := 2) rfl (Or.inr rfl) hl (by decide))]
    rcases a3 l hl with q | ⟨q1, q2, q3⟩ | ⟨q1, q2, q3⟩ | ⟨q1, q2, q3⟩
    · exact Or.inl q
    · exact Or.inr (Or.inl (⟨gr_lab g q1 (by decide), q2, fun i h0 h1 => by rw [(gr_cx g c2 (170, -1) (by decide) (L := 170) rfl (Or.inl rfl) q1 (by decide))]; exact gr_lab g (q3 i h0 h1) (by decide)⟩))
    · exact Or.inr (Or.inr (Or.inl (⟨gr_lab g q1 (by decide), q2, fun i h0 h1 => by rw [(gr_cx g c2 (171, -1) (by decide) (L := 171) rfl (Or.inl rfl) q1 (by decide))]; exact gr_lab g (q3 i h0 h1) (by decide)⟩)))
    · exact Or.inr (Or.inr (Or.inr (⟨gr_lab g q1 (by decide), q2, fun i h0 h1 => by rw [(gr_cx g c2 (172, -1) (by decide) (L := 172) rfl (Or.inl rfl) q1 (by decide))]; exact gr_lab g (q3 i h0 h1) (by decide)⟩)))
  · intro l hl
    have hl := gr_bk g c1 rfl hl
    rw [(gr_cx g c2 (157, 1) (by decide) (L := 157) (j := 1) rfl (Or.inr rfl) hl (by decide)), (gr_cx g c2 (157, 2) (by decide) (L := 157) (j := 2) rfl (Or.inr rfl) hl (by decide))]
    rcases a4 l hl with q | ⟨q1, q2, q3⟩ | ⟨q1, q2, q3⟩ | ⟨q1, q2, q3⟩ | ⟨q1, q2, q3⟩ | ⟨q1, q2, q3⟩ | ⟨q1, q2, q3⟩
    · exact Or.inl q
    · exact Or.inr (Or.inl (⟨gr_lab g q1 (by decide), q2, fun i h0 h1 => by rw [(gr_cx g c2 (173, -1) (by decide) (L := 173) rfl (Or.inl rfl) q1 (by decide))]; exact gr_lab g (q3 i h0 h1) (by decide)⟩))
    · exact Or.inr (Or.inr (Or.inl (⟨gr_lab g q1 (by decide), q2, fun i h0 h1 => by rw [(gr_cx g c2 (174, -1) (by decide) (L := 174) rfl (Or.inl rfl) q1 (by decide))]; exact gr_lab g (q3 i h0 h1) (by decide)⟩)))
    · exact Or.inr (Or.inr (Or.inr (Or.inl (⟨gr_lab g q1 (by decide), q2, fun i h0 h1 => by rw [(gr_cx g c2 (175, -1) (by decide) (L := 175) rfl (Or.inl rfl) q1 (by decide))]; exact gr_lab g (q3 i h0 h1) (by decide)⟩))))
    · exact Or.inr (Or.inr (Or.inr (Or.inr (Or.inl (⟨gr_lab g q1 (by decide), q2, fun i h0 h1 => by rw [(gr_cx g c2 (176, -1) (by decide) (L := 176) rfl (Or.inl rfl) q1 (by decide))]; exact gr_lab g (q3 i h0 h1) (by decide)⟩)))))
    · exact Or.inr (Or.inr (Or.inr (Or.inr (Or.inr (Or.inl (⟨gr_lab g q1 (by decide), q2, fun i h0 h1 => by rw [(gr_cx g c2 (177, -1) (by decide) (L := 177) rfl (Or.inl rfl) q1 (by decide))]; exact gr_lab g (q3 i h0 h1) (by decide)⟩))))))
    · exact Or.inr (Or.inr (Or.inr (Or.inr (Or.inr (Or.inr (⟨gr_lab g q1 (by decide), q2, fun i h0 h1 => by rw [(gr_cx g c2 (178, -1) (by decide) (L := 178) rfl (Or.inl rfl) q1 (by decide))]; exact gr_lab g (q3 i h0 h1) (by decide)⟩))))))
  · intro l hl
    have hl := gr_bk g c1 rfl hl
    rw [(gr_cx g c2 (158, 1) (by decide) (L := 158) (j := 1) rfl (Or.inr rfl) hl (by decide)), (gr_cx g c2 (158, 2) (by decide) (L := 158) (j := 2) rfl (Or.inr rfl) hl (by decide))]
    rcases a5 l hl with q | ⟨q1, q2, q3⟩
    · exact Or.inl q
    · exact Or.inr (⟨gr_lab g q1 (by decide), q2, fun i h0 h1 => by rw [(gr_cx g c2 (179, -1) (by decide) (L := 179) rfl (Or.inl rfl) q1 (by decide))]; exact gr_lab g (q3 i h0 h1) (by decide)⟩)
  · intro l hl
    have hl := gr_bk g c1 rfl hl
    rw [a0 l a (hl.trans hS.symm) (by rw [hl]; rfl)]
    exact lb
  · intro t ht i h0 h1 hh
    have ht := gr_bk g c1 rfl ht
    rw [(gr_cx g c2 (136, 3) (by decide) (L := 136) (j := 3) rfl (Or.inr rfl) ht (by decide)), (gr_cx g c2 (120, -1) (by decide) (L := 120) rfl (Or.inl rfl) (tk t ht).1 (by decide))] at hh
    rw [(gr_cx g c2 (136, 5) (by decide) (L := 136) (j := 5) rfl (Or.inr rfl) ht (by decide)), (gr_cx g c2 (121, -1) (by decide) (L := 121) rfl (Or.inl rfl) (tk t ht).2 (by decide))]
    exact a7 t ht i h0 h1 hh
  · intro t u ht hu hh
    have ht := gr_bk g c1 rfl ht
    have hu := gr_bk g c1 rfl hu
    rw [(gr_cx g c2 (136, 3) (by decide) (L := 136) (j := 3) rfl (Or.inr rfl) ht (by decide)), (gr_cx g c2 (136, 3) (by decide) (L := 136) (j := 3) rfl (Or.inr rfl) hu (by decide)), (gr_cx g c2 (136, 5) (by decide) (L := 136) (j := 5) rfl (Or.inr rfl) ht (by decide)), (gr_cx g c2 (136, 5) (by decide) (L := 136) (j := 5) rfl (Or.inr rfl) hu (by decide))] at hh
    exact a8 t u ht hu hh
  · intro p l hp hl
    have hp := gr_bk g c1 rfl hp
    have hl := gr_bk g c1 rfl hl
    rw [(gr_cx g c2 (138, 2) (by decide) (L := 138) (j := 2) rfl (Or.inr rfl) hp (by decide)), (gr_cx g c2 (156, 2) (by decide) (L := 156) (j := 2) rfl (Or.inr rfl) hl (by decide))]
    exact a9 p l hp hl
end CIA
theorem fu_154 : FlU RJx4a65c 63 154 0 (0, (-2147483648), 2147483647) := ⟨0, 3, fs_154, RJx4a65c, TJx4a65c, "java/util/ArrayList", rfl, rfl, by decide, rfl, by decide, rfl, cf_Jx4a65c, (tbg sg1 142 rfl rfl), (tbg sg1 143 rfl rfl), rfl, by decide +kernel⟩
theorem co_Jx4a65c_add_72be8 : Co mJx4a65c_add_72be8 3 := ⟨(tbg sg3 76 rfl rfl), (tbg sg1 6 rfl rfl), by decide, by decide, by decide +kernel, by decide⟩
theorem cv_Jx4a65c_131_154 : Cv RJx4a65c 131 mJx4a65c_add_72be8 154 3 := ⟨co_Jx4a65c_add_72be8, (tbg sg3 73 rfl rfl), (tbg sg3 75 rfl rfl), 0, 3, fs_154, RJx4a65c, TJx4a65c, rfl, by decide, rfl, (tbm 2 (by decide +kernel) rfl)⟩
theorem fu_155 : FlU RJx4a65c 63 155 0 (0, (-2147483648), 2147483647) := ⟨0, 3, fs_155, RJx4a65c, TJx4a65c, "java/util/ArrayList", rfl, rfl, by decide, rfl, by decide, rfl, cf_Jx4a65c, (tbg sg1 142 rfl rfl), (tbg sg1 143 rfl rfl), rfl, by decide +kernel⟩
theorem cv_Jx4a65c_131_155 : Cv RJx4a65c 131 mJx4a65c_add_72be8 155 3 := ⟨co_Jx4a65c_add_72be8, (tbg sg3 73 rfl rfl), (tbg sg3 75 rfl rfl), 0, 3, fs_155, RJx4a65c, TJx4a65c, rfl, by decide, rfl, (tbm 2 (by decide +kernel) rfl)⟩
theorem fu_156 : FlU RJx4a65c 63 156 0 (0, (-2147483648), 2147483647) := ⟨0, 3, fs_156, RJx4a65c, TJx4a65c, "java/util/ArrayList", rfl, rfl, by decide, rfl, by decide, rfl, cf_Jx4a65c, (tbg sg1 142 rfl rfl), (tbg sg1 143 rfl rfl), rfl, by decide +kernel⟩
theorem cv_Jx4a65c_131_156 : Cv RJx4a65c 131 mJx4a65c_add_72be8 156 3 := ⟨co_Jx4a65c_add_72be8, (tbg sg3 73 rfl rfl), (tbg sg3 75 rfl rfl), 0, 3, fs_156, RJx4a65c, TJx4a65c, rfl, by decide, rfl, (tbm 2 (by decide +kernel) rfl)⟩
theorem fu_157 : FlU RJx4a65c 63 157 0 (0, (-2147483648), 2147483647) := ⟨0, 3, fs_157, RJx4a65c, TJx4a65c, "java/util/ArrayList", rfl, rfl, by decide, rfl, by decide, rfl, cf_Jx4a65c, (tbg sg1 142 rfl rfl), (tbg sg1 143 rfl rfl), rfl, by decide +kernel⟩
theorem cv_Jx4a65c_131_157 : Cv RJx4a65c 131 mJx4a65c_add_72be8 157 3 := ⟨co_Jx4a65c_add_72be8, (tbg sg3 73 rfl rfl), (tbg sg3 75 rfl rfl), 0, 3, fs_157, RJx4a65c, TJx4a65c, rfl, by decide, rfl, (tbm 2 (by decide +kernel) rfl)⟩
theorem fu_158 : FlU RJx4a65c 63 158 0 (0, (-2147483648), 2147483647) := ⟨0, 3, fs_158, RJx4a65c, TJx4a65c, "java/util/ArrayList", rfl, rfl, by decide, rfl, by decide, rfl, cf_Jx4a65c, (tbg sg1 142 rfl rfl), (tbg sg1 143 rfl rfl), rfl, by decide +kernel⟩
theorem cv_Jx4a65c_131_158 : Cv RJx4a65c 131 mJx4a65c_add_72be8 158 3 := ⟨co_Jx4a65c_add_72be8, (tbg sg3 73 rfl rfl), (tbg sg3 75 rfl rfl), 0, 3, fs_158, RJx4a65c, TJx4a65c, rfl, by decide, rfl, (tbm 2 (by decide +kernel) rfl)⟩
theorem fu_159 : FlU RJx4a65c 63 159 0 (0, (-2147483648), 2147483647) := ⟨0, 3, fs_159, RJx4a65c, TJx4a65c, "java/util/ArrayList", rfl, rfl, by decide, rfl, by decide, rfl, cf_Jx4a65c, (tbg sg1 142 rfl rfl), (tbg sg1 143 rfl rfl), rfl, by decide +kernel⟩
theorem cv_Jx4a65c_131_159 : Cv RJx4a65c 131 mJx4a65c_add_72be8 159 3 := ⟨co_Jx4a65c_add_72be8, (tbg sg3 73 rfl rfl), (tbg sg3 75 rfl rfl), 0, 3, fs_159, RJx4a65c, TJx4a65c, rfl, by decide, rfl, (tbm 2 (by decide +kernel) rfl)⟩
set_option maxRecDepth 100000 in
set_option maxHeartbeats 4000000 in
theorem c_add_Lis (E : En) (S : Sg) (G : Gh) (this : Int) (e : Int) (hS : S this = 154) (e_s : S e = 139) (sz : Int) (sz_e : sz = G 154 this 2) (pre0 : sz + 1 ≤ 40) (ci : CI E S G) : Calls E mJx4a65c_add_9ea2d [(2, this), (2, e)] S G 14 1 49 (fun r S' G' => Gr [160, 161, 162, 163, 164] [(154, 0), (154, 1), (154, 2), (160, -1), (161, -1), (162, -1), (163, -1), (164, -1)] S G S' G' ∧ ∃ z : Int, r = some (0, z) ∧ 1 ≤ z ∧ z ≤ 1 ∧ CI E S' G' ∧ G' 154 this 2 = sz + 1) := by
  refine calls_by [(0, (2, this)), (1, (2, e))] rfl rfl (Nat.le_of_ble_eq_true rfl) (fun X hX => ?_)
  have hP := hPJx4a65c_add_9ea2d
  refine r_peekI hX (tl_154 2 rfl (by decide)) hS (fun sz_o sz_oe sz_oa sz_ob => ?_)
  obtain rfl : sz = sz_o := sz_e.trans sz_oe.symm
  refine r_tk hX (fun tk0 => ?_)
  refine r_ex hX hP 2 (pc' := 2) (st' := [(2, this), (2, this)]) (lo' := [(0, (2, this)), (1, (2, e))]) rfl ?_
  refine r_getUI hX hP rfl fu_154 hS (fun mf1 mf1e mf1a mf1b => ?_)
  refine r_ex hX hP 2 (pc' := 7) (st' := [(0, (mf1 + 1)), (2, this)]) (lo' := [(0, (2, this)), (1, (2, e))]) rfl ?_
  refine r_hvI hX (fun w2 w2a w2b w2e => ?_)
  refine r_putUI hX hP rfl fu_154 hS (by omega) (by omega) ?_
  refine r_ex hX hP 3 (pc' := 13) (st' := [(2, this), (2, e), (2, this)]) (lo' := [(0, (2, this)), (1, (2, e))]) rfl ?_
  refine r_get5 hX hP rfl fl_Jx4a65c_9_154 hS (fun ef3 ef3e ef3o => ?_)
  refine r_ex hX hP 1 (pc' := 17) (st' := [(2, this), (2, ef3), (2, e), (2, this)]) (lo' := [(0, (2, this)), (1, (2, e))]) rfl ?_
  refine r_getKI hX hP rfl fl_Jx4a65c_48_154 hS (x := sz) sz_e ?_
  rcases ci.2.1 this hS with ⟨q1, q2⟩ | ⟨q1, q2, q3⟩ | ⟨q1, q2, q3⟩ | ⟨q1, q2, q3⟩ | ⟨q1, q2, q3⟩ | ⟨q1, q2, q3⟩
  · skip
    obtain rfl : ef3 = Ad E 0 := ef3e.trans q1
    have q2 : sz = 0 := sz_e.trans q2
    have g4 : Gr [160, 161, 162, 163, 164] [(154, 0), (154, 1), (154, 2), (160, -1), (161, -1), (162, -1), (163, -1), (164, -1)] S G S (up G 154 this 0 w2) := (gr_up (gr_refl [160, 161, 162, 163, 164] [(154, 0), (154, 1), (154, 2), (160, -1), (161, -1), (162, -1), (163, -1), (164, -1)] S G) rfl)
    refine r_callV gd hX hP rfl cv_Jx4a65c_131_154 hS (d' := 12) (mc' := 1) (ms' := 10) (as' := [(2, e), (2, (Ad E 0)), (0, sz)]) (st := []) (by omega) (by omega) (by omega) rfl rfl (Nat.le_of_ble_eq_true rfl) (c_ad3_Lis_E E S (up G 154 this 0 w2) this e (Ad E 0) sz hS e_s (by omega) (by omega) sz_e rfl ef3e) ?_
    rintro _ S5 G6 ⟨g7, rfl, q8, q9⟩
    have s10 : S5 this = 154 := gr_lab g7 hS (by decide)
    have s11 : S5 e = 139 := gr_lab g7 e_s (by decide)
    have g12 : Gr [160, 161, 162, 163, 164] [(154, 0), (154, 1), (154, 2), (160, -1), (161, -1), (162, -1), (163, -1), (164, -1)] S G S5 G6 := gr_call g4 g7 rfl rfl
    refine r_ex hX hP 1 (pc' := 24) (st' := [(0, 1)]) (lo' := [(0, (2, this)), (1, (2, e))]) rfl ?_
    exact r_retZ hX hP rfl rfl (by omega) (by omega) (by omega) (by omega) ⟨g12, 1, rfl, (by omega), (by omega), (ci_ad0 ci tk0 g12 rfl rfl hS q8 (by have e := q9; omega)), q9⟩
  · skip
    have qs : S ef3 = 160 := by rw [ef3e]; exact q1
    have q2 : sz ≤ 10 := by rw [sz_e]; exact q2
    have q3 : ∀ i : Int, 0 ≤ i → i < sz → S (G 160 ef3 i) = 139 := by rw [sz_e, ef3e]; exact q3
    have g13 : Gr [160, 161, 162, 163, 164] [(154, 0), (154, 1), (154, 2), (160, -1), (161, -1), (162, -1), (163, -1), (164, -1)] S G S (up G 154 this 0 w2) := (gr_up (gr_refl [160, 161, 162, 163, 164] [(154, 0), (154, 1), (154, 2), (160, -1), (161, -1), (162, -1), (163, -1), (164, -1)] S G) rfl)
    refine r_callV gd hX hP rfl cv_Jx4a65c_131_154 hS (d' := 12) (mc' := 1) (ms' := 15) (as' := [(2, e), (2, ef3), (0, sz)]) (st := []) (by omega) (by omega) (by omega) rfl rfl (Nat.le_of_ble_eq_true rfl) (c_ad3_Lis_0 E S (up G 154 this 0 w2) this e ef3 sz hS e_s qs (by omega) (by omega) sz_e ef3e q3) ?_
    rintro _ S14 G15 ⟨g16, rfl, q17, q18⟩
    have s19 : S14 this = 154 := gr_lab g16 hS (by decide)
    have s20 : S14 e = 139 := gr_lab g16 e_s (by decide)
    have s21 : S14 ef3 = 160 := gr_lab g16 qs (by decide)
    have g22 : Gr [160, 161, 162, 163, 164] [(154, 0), (154, 1), (154, 2), (160, -1), (161, -1), (162, -1), (163, -1), (164, -1)] S G S14 G15 := gr_call g13 g16 rfl rfl
    refine r_ex hX hP 1 (pc' := 24) (st' := [(0, 1)]) (lo' := [(0, (2, this)), (1, (2, e))]) rfl ?_
    exact r_retZ hX hP rfl rfl (by omega) (by omega) (by omega) (by omega) ⟨g22, 1, rfl, (by omega), (by omega), (ci_ad0 ci tk0 g22 rfl rfl hS q17 (by have e := q18; omega)), q18⟩
  · skip
    have qs : S ef3 = 161 := by rw [ef3e]; exact q1
    have q2 : sz ≤ 15 := by rw [sz_e]; exact q2
    have q3 : ∀ i : Int, 0 ≤ i → i < sz → S (G 161 ef3 i) = 139 := by rw [sz_e, ef3e]; exact q3
    have g23 : Gr [160, 161, 162, 163, 164] [(154, 0), (154, 1), (154, 2), (160, -1), (161, -1), (162, -1), (163, -1), (164, -1)] S G S (up G 154 this 0 w2) := (gr_up (gr_refl [160, 161, 162, 163, 164] [(154, 0), (154, 1), (154, 2), (160, -1), (161, -1), (162, -1), (163, -1), (164, -1)] S G) rfl)
    refine r_callV gd hX hP rfl cv_Jx4a65c_131_154 hS (d' := 12) (mc' := 1) (ms' := 22) (as' := [(2, e), (2, ef3), (0, sz)]) (st := []) (by omega) (by omega) (by omega) rfl rfl (Nat.le_of_ble_eq_true rfl) (c_ad3_Lis_1 E S (up G 154 this 0 w2) this e ef3 sz hS e_s qs (by omega) (by omega) sz_e ef3e q3) ?_
    rintro _ S24 G25 ⟨g26, rfl, q27, q28⟩
    have s29 : S24 this = 154 := gr_lab g26 hS (by decide)
    have s30 : S24 e = 139 := gr_lab g26 e_s (by decide)
    have s31 : S24 ef3 = 161 := gr_lab g26 qs (by decide)
    have g32 : Gr [160, 161, 162, 163, 164] [(154, 0), (154, 1), (154, 2), (160, -1), (161, -1), (162, -1), (163, -1), (164, -1)] S G S24 G25 := gr_call g23 g26 rfl rfl
    refine r_ex hX hP 1 (pc' := 24) (st' := [(0, 1)]) (lo' := [(0, (2, this)), (1, (2, e))]) rfl ?_
    exact r_retZ hX hP rfl rfl (by omega) (by omega) (by omega) (by omega) ⟨g32, 1, rfl, (by omega), (by omega), (ci_ad0 ci tk0 g32 rfl rfl hS q27 (by have e := q28; omega)), q28⟩
  · skip
    have qs : S ef3 = 162 := by rw [ef3e]; exact q1
    have q2 : sz ≤ 22 := by rw [sz_e]; exact q2
    have q3 : ∀ i : Int, 0 ≤ i → i < sz → S (G 162 ef3 i) = 139 := by rw [sz_e, ef3e]; exact q3
    have g33 : Gr [160, 161, 162, 163, 164] [(154, 0), (154, 1), (154, 2), (160, -1), (161, -1), (162, -1), (163, -1), (164, -1)] S G S (up G 154 this 0 w2) := (gr_up (gr_refl [160, 161, 162, 163, 164] [(154, 0), (154, 1), (154, 2), (160, -1), (161, -1), (162, -1), (163, -1), (164, -1)] S G) rfl)
    refine r_callV gd hX hP rfl cv_Jx4a65c_131_154 hS (d' := 12) (mc' := 1) (ms' := 33) (as' := [(2, e), (2, ef3), (0, sz)]) (st := []) (by omega) (by omega) (by omega) rfl rfl (Nat.le_of_ble_eq_true rfl) (c_ad3_Lis_2 E S (up G 154 this 0 w2) this e ef3 sz hS e_s qs (by omega) (by omega) sz_e ef3e q3) ?_
    rintro _ S34 G35 ⟨g36, rfl, q37, q38⟩
    have s39 : S34 this = 154 := gr_lab g36 hS (by decide)
    have s40 : S34 e = 139 := gr_lab g36 e_s (by decide)
    have s41 : S34 ef3 = 162 := gr_lab g36 qs (by decide)
    have g42 : Gr [160, 161, 162, 163, 164] [(154, 0), (154, 1), (154, 2), (160, -1), (161, -1), (162, -1), (163, -1), (164, -1)] S G S34 G35 := gr_call g33 g36 rfl rfl
    refine r_ex hX hP 1 (pc' := 24) (st' := [(0, 1)]) (lo' := [(0, (2, this)), (1, (2, e))]) rfl ?_
    exact r_retZ hX hP rfl rfl (by omega) (by omega) (by omega) (by omega) ⟨g42, 1, rfl, (by omega), (by omega), (ci_ad0 ci tk0 g42 rfl rfl hS q37 (by have e := q38; omega)), q38⟩
  · skip
    have qs : S ef3 = 163 := by rw [ef3e]; exact q1
    have q2 : sz ≤ 33 := by rw [sz_e]; exact q2
    have q3 : ∀ i : Int, 0 ≤ i → i < sz → S (G 163 ef3 i) = 139 := by rw [sz_e, ef3e]; exact q3
    have g43 : Gr [160, 161, 162, 163, 164] [(154, 0), (154, 1), (154, 2), (160, -1), (161, -1), (162, -1), (163, -1), (164, -1)] S G S (up G 154 this 0 w2) := (gr_up (gr_refl [160, 161, 162, 163, 164] [(154, 0), (154, 1), (154, 2), (160, -1), (161, -1), (162, -1), (163, -1), (164, -1)] S G) rfl)
    refine r_callV gd hX hP rfl cv_Jx4a65c_131_154 hS (d' := 12) (mc' := 1) (ms' := 49) (as' := [(2, e), (2, ef3), (0, sz)]) (st := []) (by omega) (by omega) (by omega) rfl rfl (Nat.le_of_ble_eq_true rfl) (c_ad3_Lis_3 E S (up G 154 this 0 w2) this e ef3 sz hS e_s qs (by omega) (by omega) sz_e ef3e q3) ?_
    rintro _ S44 G45 ⟨g46, rfl, q47, q48⟩
    have s49 : S44 this = 154 := gr_lab g46 hS (by decide)
    have s50 : S44 e = 139 := gr_lab g46 e_s (by decide)
    have s51 : S44 ef3 = 163 := gr_lab g46 qs (by decide)
    have g52 : Gr [160, 161, 162, 163, 164] [(154, 0), (154, 1), (154, 2), (160, -1), (161, -1), (162, -1), (163, -1), (164, -1)] S G S44 G45 := gr_call g43 g46 rfl rfl
    refine r_ex hX hP 1 (pc' := 24) (st' := [(0, 1)]) (lo' := [(0, (2, this)), (1, (2, e))]) rfl ?_
    exact r_retZ hX hP rfl rfl (by omega) (by omega) (by omega) (by omega) ⟨g52, 1, rfl, (by omega), (by omega), (ci_ad0 ci tk0 g52 rfl rfl hS q47 (by have e := q48; omega)), q48⟩
  · skip
    have qs : S ef3 = 164 := by rw [ef3e]; exact q1
    have q2 : sz ≤ 49 := by rw [sz_e]; exact q2
    have q3 : ∀ i : Int, 0 ≤ i → i < sz → S (G 164 ef3 i) = 139 := by rw [sz_e, ef3e]; exact q3
    have g53 : Gr [160, 161, 162, 163, 164] [(154, 0), (154, 1), (154, 2), (160, -1), (161, -1), (162, -1), (163, -1), (164, -1)] S G S (up G 154 this 0 w2) := (gr_up (gr_refl [160, 161, 162, 163, 164] [(154, 0), (154, 1), (154, 2), (160, -1), (161, -1), (162, -1), (163, -1), (164, -1)] S G) rfl)
    refine r_callV gd hX hP rfl cv_Jx4a65c_131_154 hS (d' := 12) (mc' := 0) (ms' := 0) (as' := [(2, e), (2, ef3), (0, sz)]) (st := []) (by omega) (by omega) (by omega) rfl rfl (Nat.le_of_ble_eq_true rfl) (c_ad3_Lis_4 E S (up G 154 this 0 w2) this e ef3 sz hS e_s qs (by omega) (by omega) sz_e ef3e q3) ?_
    rintro _ S54 G55 ⟨g56, rfl, q57, q58⟩
    have s59 : S54 this = 154 := gr_lab g56 hS (by decide)
    have s60 : S54 e = 139 := gr_lab g56 e_s (by decide)
    have s61 : S54 ef3 = 164 := gr_lab g56 qs (by decide)
    have e62 : ef3 = G55 154 this 1 := gr_val g56 ef3e hS (by decide) rfl
    have g63 : Gr [160, 161, 162, 163, 164] [(154, 0), (154, 1), (154, 2), (160, -1), (161, -1), (162, -1), (163, -1), (164, -1)] S G S54 G55 := gr_call g53 g56 rfl rfl
    refine r_ex hX hP 1 (pc' := 24) (st' := [(0, 1)]) (lo' := [(0, (2, this)), (1, (2, e))]) rfl ?_
    exact r_retZ hX hP rfl rfl (by omega) (by omega) (by omega) (by omega) ⟨g63, 1, rfl, (by omega), (by omega), (ci_ad0 ci tk0 g63 rfl rfl hS q57 (by have e := q58; omega)), q58⟩
set_option maxRecDepth 100000 in
set_option maxHeartbeats 4000000 in
theorem c_add_Ltr (E : En) (S : Sg) (G : Gh) (this : Int) (e : Int) (hS : S this = 155) (e_s : S e = 140) (sz : Int) (sz_e : sz = G 155 this 2) (pre0 : sz + 1 ≤ 40) (ci : CI E S G) : Calls E mJx4a65c_add_9ea2d [(2, this), (2, e)] S G 14 1 49 (fun r S' G' => Gr [165, 166, 167, 168, 169] [(155, 0), (155, 1), (155, 2), (165, -1), (166, -1), (167, -1), (168, -1), (169, -1)] S G S' G' ∧ ∃ z : Int, r = some (0, z) ∧ 1 ≤ z ∧ z ≤ 1 ∧ CI E S' G' ∧ G' 155 this 2 = sz + 1) := by
  refine calls_by [(0, (2, this)), (1, (2, e))] rfl rfl (Nat.le_of_ble_eq_true rfl) (fun X hX => ?_)
  have hP := hPJx4a65c_add_9ea2d
  refine r_peekI hX (tl_155 2 rfl (by decide)) hS (fun sz_o sz_oe sz_oa sz_ob => ?_)
  obtain rfl : sz = sz_o := sz_e.trans sz_oe.symm
  refine r_tk hX (fun tk0 => ?_)
  refine r_ex hX hP 2 (pc' := 2) (st' := [(2, this), (2, this)]) (lo' := [(0, (2, this)), (1, (2, e))]) rfl ?_
  refine r_getUI hX hP rfl fu_155 hS (fun mf1 mf1e mf1a mf1b => ?_)
  refine r_ex hX hP 2 (pc' := 7) (st' := [(0, (mf1 + 1)), (2, this)]) (lo' := [(0, (2, this)), (1, (2, e))]) rfl ?_
  refine r_hvI hX (fun w2 w2a w2b w2e => ?_)
  refine r_putUI hX hP rfl fu_155 hS (by omega) (by omega) ?_
  refine r_ex hX hP 3 (pc' := 13) (st' := [(2, this), (2, e), (2, this)]) (lo' := [(0, (2, this)), (1, (2, e))]) rfl ?_
  refine r_get5 hX hP rfl fl_Jx4a65c_9_155 hS (fun ef3 ef3e ef3o => ?_)
  refine r_ex hX hP 1 (pc' := 17) (st' := [(2, this), (2, ef3), (2, e), (2, this)]) (lo' := [(0, (2, this)), (1, (2, e))]) rfl ?_
  refine r_getKI hX hP rfl fl_Jx4a65c_48_155 hS (x := sz) sz_e ?_
  rcases ci.2.2.1 this hS with ⟨q1, q2⟩ | ⟨q1, q2, q3⟩ | ⟨q1, q2, q3⟩ | ⟨q1, q2, q3⟩ | ⟨q1, q2, q3⟩ | ⟨q1, q2, q3⟩
  · skip
    obtain rfl : ef3 = Ad E 0 := ef3e.trans q1
    have q2 : sz = 0 := sz_e.trans q2
    have g4 : Gr [165, 166, 167, 168, 169] [(155, 0), (155, 1), (155, 2), (165, -1), (166, -1), (167, -1), (168, -1), (169, -1)] S G S (up G 155 this 0 w2) := (gr_up (gr_refl [165, 166, 167, 168, 169] [(155, 0), (155, 1), (155, 2), (165, -1), (166, -1), (167, -1), (168, -1), (169, -1)] S G) rfl)
    refine r_callV gd hX hP rfl cv_Jx4a65c_131_155 hS (d' := 12) (mc' := 1) (ms' := 10) (as' := [(2, e), (2, (Ad E 0)), (0, sz)]) (st := []) (by omega) (by omega) (by omega) rfl rfl (Nat.le_of_ble_eq_true rfl) (c_ad3_Ltr_E E S (up G 155 this 0 w2) this e (Ad E 0) sz hS e_s (by omega) (by omega) sz_e rfl ef3e) ?_
    rintro _ S5 G6 ⟨g7, rfl, q8, q9⟩
    have s10 : S5 this = 155 := gr_lab g7 hS (by decide)
    have s11 : S5 e = 140 := gr_lab g7 e_s (by decide)
    have g12 : Gr [165, 166, 167, 168, 169] [(155, 0), (155, 1), (155, 2), (165, -1), (166, -1), (167, -1), (168, -1), (169, -1)] S G S5 G6 := gr_call g4 g7 rfl rfl
    refine r_ex hX hP 1 (pc' := 24) (st' := [(0, 1)]) (lo' := [(0, (2, this)), (1, (2, e))]) rfl ?_
    exact r_retZ hX hP rfl rfl (by omega) (by omega) (by omega) (by omega) ⟨g12, 1, rfl, (by omega), (by omega), (ci_ad1 ci tk0 g12 rfl rfl hS q8 (by have e := q9; omega)), q9⟩
  · skip
    have qs : S ef3 = 165 := by rw [ef3e]; exact q1
    have q2 : sz ≤ 10 := by rw [sz_e]; exact q2
    have q3 : ∀ i : Int, 0 ≤ i → i < sz → S (G 165 ef3 i) = 140 := by rw [sz_e, ef3e]; exact q3
    have g13 : Gr [165, 166, 167, 168, 169] [(155, 0), (155, 1), (155, 2), (165, -1), (166, -1), (167, -1), (168, -1), (169, -1)] S G S (up G 155 this 0 w2) := (gr_up (gr_refl [165, 166, 167, 168, 169] [(155, 0), (155, 1), (155, 2), (165, -1), (166, -1), (167, -1), (168, -1), (169, -1)] S G) rfl)
    refine r_callV gd hX hP rfl cv_Jx4a65c_131_155 hS (d' := 12) (mc' := 1) (ms' := 15) (as' := [(2, e), (2, ef3), (0, sz)]) (st := []) (by omega) (by omega) (by omega) rfl rfl (Nat.le_of_ble_eq_true rfl) (c_ad3_Ltr_0 E S (up G 155 this 0 w2) this e ef3 sz hS e_s qs (by omega) (by omega) sz_e ef3e q3) ?_
    rintro _ S14 G15 ⟨g16, rfl, q17, q18⟩
    have s19 : S14 this = 155 := gr_lab g16 hS (by decide)
    have s20 : S14 e = 140 := gr_lab g16 e_s (by decide)
    have s21 : S14 ef3 = 165 := gr_lab g16 qs (by decide)
    have g22 : Gr [165, 166, 167, 168, 169] [(155, 0), (155, 1), (155, 2), (165, -1), (166, -1), (167, -1), (168, -1), (169, -1)] S G S14 G15 := gr_call g13 g16 rfl rfl
    refine r_ex hX hP 1 (pc' := 24) (st' := [(0, 1)]) (lo' := [(0, (2, this)), (1, (2, e))]) rfl ?_
    exact r_retZ hX hP rfl rfl (by omega) (by omega) (by omega) (by omega) ⟨g22, 1, rfl, (by omega), (by omega), (ci_ad1 ci tk0 g22 rfl rfl hS q17 (by have e := q18; omega)), q18⟩
  · skip
    have qs : S ef3 = 166 := by rw [ef3e]; exact q1
    have q2 : sz ≤ 15 := by rw [sz_e]; exact q2
    have q3 : ∀ i : Int, 0 ≤ i → i < sz → S (G 166 ef3 i) = 140 := by rw [sz_e, ef3e]; exact q3
    have g23 : Gr [165, 166, 167, 168, 169] [(155, 0), (155, 1), (155, 2), (165, -1), (166, -1), (167, -1), (168, -1), (169, -1)] S G S (up G 155 this 0 w2) := (gr_up (gr_refl [165, 166, 167, 168, 169] [(155, 0), (155, 1), (155, 2), (165, -1), (166, -1), (167, -1), (168, -1), (169, -1)] S G) rfl)
    refine r_callV gd hX hP rfl cv_Jx4a65c_131_155 hS (d' := 12) (mc' := 1) (ms' := 22) (as' := [(2, e), (2, ef3), (0, sz)]) (st := []) (by omega) (by omega) (by omega) rfl rfl (Nat.le_of_ble_eq_true rfl) (c_ad3_Ltr_1 E S (up G 155 this 0 w2) this e ef3 sz hS e_s qs (by omega) (by omega) sz_e ef3e q3) ?_
    rintro _ S24 G25 ⟨g26, rfl, q27, q28⟩
    have s29 : S24 this = 155 := gr_lab g26 hS (by decide)
    have s30 : S24 e = 140 := gr_lab g26 e_s (by decide)
    have s31 : S24 ef3 = 166 := gr_lab g26 qs (by decide)
    have g32 : Gr [165, 166, 167, 168, 169] [(155, 0), (155, 1), (155, 2), (165, -1), (166, -1), (167, -1), (168, -1), (169, -1)] S G S24 G25 := gr_call g23 g26 rfl rfl
    refine r_ex hX hP 1 (pc' := 24) (st' := [(0, 1)]) (lo' := [(0, (2, this)), (1, (2, e))]) rfl ?_
    exact r_retZ hX hP rfl rfl (by omega) (by omega) (by omega) (by omega) ⟨g32, 1, rfl, (by omega), (by omega), (ci_ad1 ci tk0 g32 rfl rfl hS q27 (by have e := q28; omega)), q28⟩
  · skip
    have qs : S ef3 = 167 := by rw [ef3e]; exact q1
    have q2 : sz ≤ 22 := by rw [sz_e]; exact q2
    have q3 : ∀ i : Int, 0 ≤ i → i < sz → S (G 167 ef3 i) = 140 := by rw [sz_e, ef3e]; exact q3
    have g33 : Gr [165, 166, 167, 168, 169] [(155, 0), (155, 1), (155, 2), (165, -1), (166, -1), (167, -1), (168, -1), (169, -1)] S G S (up G 155 this 0 w2) := (gr_up (gr_refl [165, 166, 167, 168, 169] [(155, 0), (155, 1), (155, 2), (165, -1), (166, -1), (167, -1), (168, -1), (169, -1)] S G) rfl)
    refine r_callV gd hX hP rfl cv_Jx4a65c_131_155 hS (d' := 12) (mc' := 1) (ms' := 33) (as' := [(2, e), (2, ef3), (0, sz)]) (st := []) (by omega) (by omega) (by omega) rfl rfl (Nat.le_of_ble_eq_true rfl) (c_ad3_Ltr_2 E S (up G 155 this 0 w2) this e ef3 sz hS e_s qs (by omega) (by omega) sz_e ef3e q3) ?_
    rintro _ S34 G35 ⟨g36, rfl, q37, q38⟩
    have s39 : S34 this = 155 := gr_lab g36 hS (by decide)
    have s40 : S34 e = 140 := gr_lab g36 e_s (by decide)
    have s41 : S34 ef3 = 167 := gr_lab g36 qs (by decide)
    have g42 : Gr [165, 166, 167, 168, 169] [(155, 0), (155, 1), (155, 2), (165, -1), (166, -1), (167, -1), (168, -1), (169, -1)] S G S34 G35 := gr_call g33 g36 rfl rfl
    refine r_ex hX hP 1 (pc' := 24) (st' := [(0, 1)]) (lo' := [(0, (2, this)), (1, (2, e))]) rfl ?_
    exact r_retZ hX hP rfl rfl (by omega) (by omega) (by omega) (by omega) ⟨g42, 1, rfl, (by omega), (by omega), (ci_ad1 ci tk0 g42 rfl rfl hS q37 (by have e := q38; omega)), q38⟩
  · skip
    have qs : S ef3 = 168 := by rw [ef3e]; exact q1
    have q2 : sz ≤ 33 := by rw [sz_e]; exact q2
    have q3 : ∀ i : Int, 0 ≤ i → i < sz → S (G 168 ef3 i) = 140 := by rw [sz_e, ef3e]; exact q3
    have g43 : Gr [165, 166, 167, 168, 169] [(155, 0), (155, 1), (155, 2), (165, -1), (166, -1), (167, -1), (168, -1), (169, -1)] S G S (up G 155 this 0 w2) := (gr_up (gr_refl [165, 166, 167, 168, 169] [(155, 0), (155, 1), (155, 2), (165, -1), (166, -1), (167, -1), (168, -1), (169, -1)] S G) rfl)
    refine r_callV gd hX hP rfl cv_Jx4a65c_131_155 hS (d' := 12) (mc' := 1) (ms' := 49) (as' := [(2, e), (2, ef3), (0, sz)]) (st := []) (by omega) (by omega) (by omega) rfl rfl (Nat.le_of_ble_eq_true rfl) (c_ad3_Ltr_3 E S (up G 155 this 0 w2) this e ef3 sz hS e_s qs (by omega) (by omega) sz_e ef3e q3) ?_
    rintro _ S44 G45 ⟨g46, rfl, q47, q48⟩
    have s49 : S44 this = 155 := gr_lab g46 hS (by decide)
    have s50 : S44 e = 140 := gr_lab g46 e_s (by decide)
    have s51 : S44 ef3 = 168 := gr_lab g46 qs (by decide)
    have g52 : Gr [165, 166, 167, 168, 169] [(155, 0), (155, 1), (155, 2), (165, -1), (166, -1), (167, -1), (168, -1), (169, -1)] S G S44 G45 := gr_call g43 g46 rfl rfl
    refine r_ex hX hP 1 (pc' := 24) (st' := [(0, 1)]) (lo' := [(0, (2, this)), (1, (2, e))]) rfl ?_
    exact r_retZ hX hP rfl rfl (by omega) (by omega) (by omega) (by omega) ⟨g52, 1, rfl, (by omega), (by omega), (ci_ad1 ci tk0 g52 rfl rfl hS q47 (by have e := q48; omega)), q48⟩
  · skip
    have qs : S ef3 = 169 := by rw [ef3e]; exact q1
    have q2 : sz ≤ 49 := by rw [sz_e]; exact q2
    have q3 : ∀ i : Int, 0 ≤ i → i < sz → S (G 169 ef3 i) = 140 := by rw [sz_e, ef3e]; exact q3
    have g53 : Gr [165, 166, 167, 168, 169] [(155, 0), (155, 1), (155, 2), (165, -1), (166, -1), (167, -1), (168, -1), (169, -1)] S G S (up G 155 this 0 w2) := (gr_up (gr_refl [165, 166, 167, 168, 169] [(155, 0), (155, 1), (155, 2), (165, -1), (166, -1), (167, -1), (168, -1), (169, -1)] S G) rfl)
    refine r_callV gd hX hP rfl cv_Jx4a65c_131_155 hS (d' := 12) (mc' := 0) (ms' := 0) (as' := [(2, e), (2, ef3), (0, sz)]) (st := []) (by omega) (by omega) (by omega) rfl rfl (Nat.le_of_ble_eq_true rfl) (c_ad3_Ltr_4 E S (up G 155 this 0 w2) this e ef3 sz hS e_s qs (by omega) (by omega) sz_e ef3e q3) ?_
    rintro _ S54 G55 ⟨g56, rfl, q57, q58⟩
    have s59 : S54 this = 155 := gr_lab g56 hS (by decide)
    have s60 : S54 e = 140 := gr_lab g56 e_s (by decide)
    have s61 : S54 ef3 = 169 := gr_lab g56 qs (by decide)
    have e62 : ef3 = G55 155 this 1 := gr_val g56 ef3e hS (by decide) rfl
    have g63 : Gr [165, 166, 167, 168, 169] [(155, 0), (155, 1), (155, 2), (165, -1), (166, -1), (167, -1), (168, -1), (169, -1)] S G S54 G55 := gr_call g53 g56 rfl rfl
    refine r_ex hX hP 1 (pc' := 24) (st' := [(0, 1)]) (lo' := [(0, (2, this)), (1, (2, e))]) rfl ?_
    exact r_retZ hX hP rfl rfl (by omega) (by omega) (by omega) (by omega) ⟨g63, 1, rfl, (by omega), (by omega), (ci_ad1 ci tk0 g63 rfl rfl hS q57 (by have e := q58; omega)), q58⟩
set_option maxRecDepth 100000 in
set_option maxHeartbeats 4000000 in
theorem c_add_Lev (E : En) (S : Sg) (G : Gh) (this : Int) (e : Int) (hS : S this = 156) (e_s : S e = 137) (sz : Int) (sz_e : sz = G 156 this 2) (pre0 : sz + 1 ≤ 16) (ci : CI E S G) : Calls E mJx4a65c_add_9ea2d [(2, this), (2, e)] S G 14 1 22 (fun r S' G' => Gr [170, 171, 172] [(156, 0), (156, 1), (156, 2), (170, -1), (171, -1), (172, -1)] S G S' G' ∧ ∃ z : Int, r = some (0, z) ∧ 1 ≤ z ∧ z ≤ 1 ∧ CI E S' G' ∧ G' 156 this 2 = sz + 1) := by
  refine calls_by [(0, (2, this)), (1, (2, e))] rfl rfl (Nat.le_of_ble_eq_true rfl) (fun X hX => ?_)
  have hP := hPJx4a65c_add_9ea2d
  refine r_peekI hX (tl_156 2 rfl (by decide)) hS (fun sz_o sz_oe sz_oa sz_ob => ?_)
  obtain rfl : sz = sz_o := sz_e.trans sz_oe.symm
  refine r_tk hX (fun tk0 => ?_)
  refine r_ex hX hP 2 (pc' := 2) (st' := [(2, this), (2, this)]) (lo' := [(0, (2, this)), (1, (2, e))]) rfl ?_
  refine r_getUI hX hP rfl fu_156 hS (fun mf1 mf1e mf1a mf1b => ?_)
  refine r_ex hX hP 2 (pc' := 7) (st' := [(0, (mf1 + 1)), (2, this)]) (lo' := [(0, (2, this)), (1, (2, e))]) rfl ?_
  refine r_hvI hX (fun w2 w2a w2b w2e => ?_)
  refine r_putUI hX hP rfl fu_156 hS (by omega) (by omega) ?_
  refine r_ex hX hP 3 (pc' := 13) (st' := [(2, this), (2, e), (2, this)]) (lo' := [(0, (2, this)), (1, (2, e))]) rfl ?_
  refine r_get5 hX hP rfl fl_Jx4a65c_9_156 hS (fun ef3 ef3e ef3o => ?_)
  refine r_ex hX hP 1 (pc' := 17) (st' := [(2, this), (2, ef3), (2, e), (2, this)]) (lo' := [(0, (2, this)), (1, (2, e))]) rfl ?_
  refine r_getKI hX hP rfl fl_Jx4a65c_48_156 hS (x := sz) sz_e ?_
  rcases ci.2.2.2.1 this hS with ⟨q1, q2⟩ | ⟨q1, q2, q3⟩ | ⟨q1, q2, q3⟩ | ⟨q1, q2, q3⟩
  · skip
    obtain rfl : ef3 = Ad E 0 := ef3e.trans q1
    have q2 : sz = 0 := sz_e.trans q2
    have g4 : Gr [170, 171, 172] [(156, 0), (156, 1), (156, 2), (170, -1), (171, -1), (172, -1)] S G S (up G 156 this 0 w2) := (gr_up (gr_refl [170, 171, 172] [(156, 0), (156, 1), (156, 2), (170, -1), (171, -1), (172, -1)] S G) rfl)
    refine r_callV gd hX hP rfl cv_Jx4a65c_131_156 hS (d' := 12) (mc' := 1) (ms' := 10) (as' := [(2, e), (2, (Ad E 0)), (0, sz)]) (st := []) (by omega) (by omega) (by omega) rfl rfl (Nat.le_of_ble_eq_true rfl) (c_ad3_Lev_E E S (up G 156 this 0 w2) this e (Ad E 0) sz hS e_s (by omega) (by omega) sz_e rfl ef3e) ?_
    rintro _ S5 G6 ⟨g7, rfl, q8, q9⟩
    have s10 : S5 this = 156 := gr_lab g7 hS (by decide)
    have s11 : S5 e = 137 := gr_lab g7 e_s (by decide)
    have g12 : Gr [170, 171, 172] [(156, 0), (156, 1), (156, 2), (170, -1), (171, -1), (172, -1)] S G S5 G6 := gr_call g4 g7 rfl rfl
    refine r_ex hX hP 1 (pc' := 24) (st' := [(0, 1)]) (lo' := [(0, (2, this)), (1, (2, e))]) rfl ?_
    exact r_retZ hX hP rfl rfl (by omega) (by omega) (by omega) (by omega) ⟨g12, 1, rfl, (by omega), (by omega), (ci_ad2 ci tk0 g12 rfl rfl hS q8 (by have e := q9; omega)), q9⟩
  · skip
    have qs : S ef3 = 170 := by rw [ef3e]; exact q1
    have q2 : sz ≤ 10 := by rw [sz_e]; exact q2
    have q3 : ∀ i : Int, 0 ≤ i → i < sz → S (G 170 ef3 i) = 137 := by rw [sz_e, ef3e]; exact q3
    have g13 : Gr [170, 171, 172] [(156, 0), (156, 1), (156, 2), (170, -1), (171, -1), (172, -1)] S G S (up G 156 this 0 w2) := (gr_up (gr_refl [170, 171, 172] [(156, 0), (156, 1), (156, 2), (170, -1), (171, -1), (172, -1)] S G) rfl)
    refine r_callV gd hX hP rfl cv_Jx4a65c_131_156 hS (d' := 12) (mc' := 1) (ms' := 15) (as' := [(2, e), (2, ef3), (0, sz)]) (st := []) (by omega) (by omega) (by omega) rfl rfl (Nat.le_of_ble_eq_true rfl) (c_ad3_Lev_0 E S (up G 156 this 0 w2) this e ef3 sz hS e_s qs (by omega) (by omega) sz_e ef3e q3) ?_
    rintro _ S14 G15 ⟨g16, rfl, q17, q18⟩
    have s19 : S14 this = 156 := gr_lab g16 hS (by decide)
    have s20 : S14 e = 137 := gr_lab g16 e_s (by decide)
    have s21 : S14 ef3 = 170 := gr_lab g16 qs (by decide)
    have g22 : Gr [170, 171, 172] [(156, 0), (156, 1), (156, 2), (170, -1), (171, -1), (172, -1)] S G S14 G15 := gr_call g13 g16 rfl rfl
    refine r_ex hX hP 1 (pc' := 24) (st' := [(0, 1)]) (lo' := [(0, (2, this)), (1, (2, e))]) rfl ?_
    exact r_retZ hX hP rfl rfl (by omega) (by omega) (by omega) (by omega) ⟨g22, 1, rfl, (by omega), (by omega), (ci_ad2 ci tk0 g22 rfl rfl hS q17 (by have e := q18; omega)), q18⟩
  · skip
    have qs : S ef3 = 171 := by rw [ef3e]; exact q1
    have q2 : sz ≤ 15 := by rw [sz_e]; exact q2
    have q3 : ∀ i : Int, 0 ≤ i → i < sz → S (G 171 ef3 i) = 137 := by rw [sz_e, ef3e]; exact q3
    have g23 : Gr [170, 171, 172] [(156, 0), (156, 1), (156, 2), (170, -1), (171, -1), (172, -1)] S G S (up G 156 this 0 w2) := (gr_up (gr_refl [170, 171, 172] [(156, 0), (156, 1), (156, 2), (170, -1), (171, -1), (172, -1)] S G) rfl)
    refine r_callV gd hX hP rfl cv_Jx4a65c_131_156 hS (d' := 12) (mc' := 1) (ms' := 22) (as' := [(2, e), (2, ef3), (0, sz)]) (st := []) (by omega) (by omega) (by omega) rfl rfl (Nat.le_of_ble_eq_true rfl) (c_ad3_Lev_1 E S (up G 156 this 0 w2) this e ef3 sz hS e_s qs (by omega) (by omega) sz_e ef3e q3) ?_
    rintro _ S24 G25 ⟨g26, rfl, q27, q28⟩
    have s29 : S24 this = 156 := gr_lab g26 hS (by decide)
    have s30 : S24 e = 137 := gr_lab g26 e_s (by decide)
    have s31 : S24 ef3 = 171 := gr_lab g26 qs (by decide)
    have g32 : Gr [170, 171, 172] [(156, 0), (156, 1), (156, 2), (170, -1), (171, -1), (172, -1)] S G S24 G25 := gr_call g23 g26 rfl rfl
    refine r_ex hX hP 1 (pc' := 24) (st' := [(0, 1)]) (lo' := [(0, (2, this)), (1, (2, e))]) rfl ?_
    exact r_retZ hX hP rfl rfl (by omega) (by omega) (by omega) (by omega) ⟨g32, 1, rfl, (by omega), (by omega), (ci_ad2 ci tk0 g32 rfl rfl hS q27 (by have e := q28; omega)), q28⟩
  · skip
    have qs : S ef3 = 172 := by rw [ef3e]; exact q1
    have q2 : sz ≤ 22 := by rw [sz_e]; exact q2
    have q3 : ∀ i : Int, 0 ≤ i → i < sz → S (G 172 ef3 i) = 137 := by rw [sz_e, ef3e]; exact q3
    have g33 : Gr [170, 171, 172] [(156, 0), (156, 1), (156, 2), (170, -1), (171, -1), (172, -1)] S G S (up G 156 this 0 w2) := (gr_up (gr_refl [170, 171, 172] [(156, 0), (156, 1), (156, 2), (170, -1), (171, -1), (172, -1)] S G) rfl)
    refine r_callV gd hX hP rfl cv_Jx4a65c_131_156 hS (d' := 12) (mc' := 0) (ms' := 0) (as' := [(2, e), (2, ef3), (0, sz)]) (st := []) (by omega) (by omega) (by omega) rfl rfl (Nat.le_of_ble_eq_true rfl) (c_ad3_Lev_2 E S (up G 156 this 0 w2) this e ef3 sz hS e_s qs (by omega) (by omega) sz_e ef3e q3) ?_
    rintro _ S34 G35 ⟨g36, rfl, q37, q38⟩
    have s39 : S34 this = 156 := gr_lab g36 hS (by decide)
    have s40 : S34 e = 137 := gr_lab g36 e_s (by decide)
    have s41 : S34 ef3 = 172 := gr_lab g36 qs (by decide)
    have e42 : ef3 = G35 156 this 1 := gr_val g36 ef3e hS (by decide) rfl
    have g43 : Gr [170, 171, 172] [(156, 0), (156, 1), (156, 2), (170, -1), (171, -1), (172, -1)] S G S34 G35 := gr_call g33 g36 rfl rfl
    refine r_ex hX hP 1 (pc' := 24) (st' := [(0, 1)]) (lo' := [(0, (2, this)), (1, (2, e))]) rfl ?_
    exact r_retZ hX hP rfl rfl (by omega) (by omega) (by omega) (by omega) ⟨g43, 1, rfl, (by omega), (by omega), (ci_ad2 ci tk0 g43 rfl rfl hS q37 (by have e := q38; omega)), q38⟩
set_option maxRecDepth 100000 in
set_option maxHeartbeats 4000000 in
theorem c_add_Lpi (E : En) (S : Sg) (G : Gh) (this : Int) (e : Int) (hS : S this = 157) (e_s : S e = 138) (sz : Int) (sz_e : sz = G 157 this 2) (pre0 : sz + 1 ≤ 60) (ci : CI E S G) : Calls E mJx4a65c_add_9ea2d [(2, this), (2, e)] S G 14 1 73 (fun r S' G' => Gr [173, 174, 175, 176, 177, 178] [(157, 0), (157, 1), (157, 2), (173, -1), (174, -1), (175, -1), (176, -1), (177, -1), (178, -1)] S G S' G' ∧ ∃ z : Int, r = some (0, z) ∧ 1 ≤ z ∧ z ≤ 1 ∧ CI E S' G' ∧ G' 157 this 2 = sz + 1) := by
  refine calls_by [(0, (2, this)), (1, (2, e))] rfl rfl (Nat.le_of_ble_eq_true rfl) (fun X hX => ?_)
  have hP := hPJx4a65c_add_9ea2d
  refine r_peekI hX (tl_157 2 rfl (by decide)) hS (fun sz_o sz_oe sz_oa sz_ob => ?_)
  obtain rfl : sz = sz_o := sz_e.trans sz_oe.symm
  refine r_tk hX (fun tk0 => ?_)
  refine r_ex hX hP 2 (pc' := 2) (st' := [(2, this), (2, this)]) (lo' := [(0, (2, this)), (1, (2, e))]) rfl ?_
  refine r_getUI hX hP rfl fu_157 hS (fun mf1 mf1e mf1a mf1b => ?_)
  refine r_ex hX hP 2 (pc' := 7) (st' := [(0, (mf1 + 1)), (2, this)]) (lo' := [(0, (2, this)), (1, (2, e))]) rfl ?_
  refine r_hvI hX (fun w2 w2a w2b w2e => ?_)
  refine r_putUI hX hP rfl fu_157 hS (by omega) (by omega) ?_
  refine r_ex hX hP 3 (pc' := 13) (st' := [(2, this), (2, e), (2, this)]) (lo' := [(0, (2, this)), (1, (2, e))]) rfl ?_
  refine r_get5 hX hP rfl fl_Jx4a65c_9_157 hS (fun ef3 ef3e ef3o => ?_)
  refine r_ex hX hP 1 (pc' := 17) (st' := [(2, this), (2, ef3), (2, e), (2, this)]) (lo' := [(0, (2, this)), (1, (2, e))]) rfl ?_
  refine r_getKI hX hP rfl fl_Jx4a65c_48_157 hS (x := sz) sz_e ?_
  rcases ci.2.2.2.2.1 this hS with ⟨q1, q2⟩ | ⟨q1, q2, q3⟩ | ⟨q1, q2, q3⟩ | ⟨q1, q2, q3⟩ | ⟨q1, q2, q3⟩ | ⟨q1, q2, q3⟩ | ⟨q1, q2, q3⟩
  · skip
    obtain rfl : ef3 = Ad E 0 := ef3e.trans q1
    have q2 : sz = 0 := sz_e.trans q2
    have g4 : Gr [173, 174, 175, 176, 177, 178] [(157, 0), (157, 1), (157, 2), (173, -1), (174, -1), (175, -1), (176, -1), (177, -1), (178, -1)] S G S (up G 157 this 0 w2) := (gr_up (gr_refl [173, 174, 175, 176, 177, 178] [(157, 0), (157, 1), (157, 2), (173, -1), (174, -1), (175, -1), (176, -1), (177, -1), (178, -1)] S G) rfl)
    refine r_callV gd hX hP rfl cv_Jx4a65c_131_157 hS (d' := 12) (mc' := 1) (ms' := 10) (as' := [(2, e), (2, (Ad E 0)), (0, sz)]) (st := []) (by omega) (by omega) (by omega) rfl rfl (Nat.le_of_ble_eq_true rfl) (c_ad3_Lpi_E E S (up G 157 this 0 w2) this e (Ad E 0) sz hS e_s (by omega) (by omega) sz_e rfl ef3e) ?_
    rintro _ S5 G6 ⟨g7, rfl, q8, q9⟩
    have s10 : S5 this = 157 := gr_lab g7 hS (by decide)
    have s11 : S5 e = 138 := gr_lab g7 e_s (by decide)
    have g12 : Gr [173, 174, 175, 176, 177, 178] [(157, 0), (157, 1), (157, 2), (173, -1), (174, -1), (175, -1), (176, -1), (177, -1), (178, -1)] S G S5 G6 := gr_call g4 g7 rfl rfl
    refine r_ex hX hP 1 (pc' := 24) (st' := [(0, 1)]) (lo' := [(0, (2, this)), (1, (2, e))]) rfl ?_
    exact r_retZ hX hP rfl rfl (by omega) (by omega) (by omega) (by omega) ⟨g12, 1, rfl, (by omega), (by omega), (ci_ad3 ci tk0 g12 rfl rfl hS q8 (by have e := q9; omega)), q9⟩
  · skip
    have qs : S ef3 = 173 := by rw [ef3e]; exact q1
    have q2 : sz ≤ 10 := by rw [sz_e]; exact q2
    have q3 : ∀ i : Int, 0 ≤ i → i < sz → S (G 173 ef3 i) = 138 := by rw [sz_e, ef3e]; exact q3
    have g13 : Gr [173, 174, 175, 176, 177, 178] [(157, 0), (157, 1), (157, 2), (173, -1), (174, -1), (175, -1), (176, -1), (177, -1), (178, -1)] S G S (up G 157 this 0 w2) := (gr_up (gr_refl [173, 174, 175, 176, 177, 178] [(157, 0), (157, 1), (157, 2), (173, -1), (174, -1), (175, -1), (176, -1), (177, -1), (178, -1)] S G) rfl)
    refine r_callV gd hX hP rfl cv_Jx4a65c_131_157 hS (d' := 12) (mc' := 1) (ms' := 15) (as' := [(2, e), (2, ef3), (0, sz)]) (st := []) (by omega) (by omega) (by omega) rfl rfl (Nat.le_of_ble_eq_true rfl) (c_ad3_Lpi_0 E S (up G 157 this 0 w2) this e ef3 sz hS e_s qs (by omega) (by omega) sz_e ef3e q3) ?_
    rintro _ S14 G15 ⟨g16, rfl, q17, q18⟩
    have s19 : S14 this = 157 := gr_lab g16 hS (by decide)
    have s20 : S14 e = 138 := gr_lab g16 e_s (by decide)
    have s21 : S14 ef3 = 173 := gr_lab g16 qs (by decide)
    have g22 : Gr [173, 174, 175, 176, 177, 178] [(157, 0), (157, 1), (157, 2), (173, -1), (174, -1), (175, -1), (176, -1), (177, -1), (178, -1)] S G S14 G15 := gr_call g13 g16 rfl rfl
    refine r_ex hX hP 1 (pc' := 24) (st' := [(0, 1)]) (lo' := [(0, (2, this)), (1, (2, e))]) rfl ?_
    exact r_retZ hX hP rfl rfl (by omega) (by omega) (by omega) (by omega) ⟨g22, 1, rfl, (by omega), (by omega), (ci_ad3 ci tk0 g22 rfl rfl hS q17 (by have e := q18; omega)), q18⟩
  · skip
    have qs : S ef3 = 174 := by rw [ef3e]; exact q1
    have q2 : sz ≤ 15 := by rw [sz_e]; exact q2
    have q3 : ∀ i : Int, 0 ≤ i → i < sz → S (G 174 ef3 i) = 138 := by rw [sz_e, ef3e]; exact q3
    have g23 : Gr [173, 174, 175, 176, 177, 178] [(157, 0), (157, 1), (157, 2), (173, -1), (174, -1), (175, -1), (176, -1), (177, -1), (178, -1)] S G S (up G 157 this 0 w2) := (gr_up (gr_refl [173, 174, 175, 176, 177, 178] [(157, 0), (157, 1), (157, 2), (173, -1), (174, -1), (175, -1), (176, -1), (177, -1), (178, -1)] S G) rfl)
    refine r_callV gd hX hP rfl cv_Jx4a65c_131_157 hS (d' := 12) (mc' := 1) (ms' := 22) (as' := [(2, e), (2, ef3), (0, sz)]) (st := []) (by omega) (by omega) (by omega) rfl rfl (Nat.le_of_ble_eq_true rfl) (c_ad3_Lpi_1 E S (up G 157 this 0 w2) this e ef3 sz hS e_s qs (by omega) (by omega) sz_e ef3e q3) ?_
    rintro _ S24 G25 ⟨g26, rfl, q27, q28⟩
    have s29 : S24 this = 157 := gr_lab g26 hS (by decide)
    have s30 : S24 e = 138 := gr_lab g26 e_s (by decide)
    have s31 : S24 ef3 = 174 := gr_lab g26 qs (by decide)
    have g32 : Gr [173, 174, 175, 176, 177, 178] [(157, 0), (157, 1), (157, 2), (173, -1), (174, -1), (175, -1), (176, -1), (177, -1), (178, -1)] S G S24 G25 := gr_call g23 g26 rfl rfl
    refine r_ex hX hP 1 (pc' := 24) (st' := [(0, 1)]) (lo' := [(0, (2, this)), (1, (2, e))]) rfl ?_
    exact r_retZ hX hP rfl rfl (by omega) (by omega) (by omega) (by omega) ⟨g32, 1, rfl, (by omega), (by omega), (ci_ad3 ci tk0 g32 rfl rfl hS q27 (by have e := q28; omega)), q28⟩
  · skip
    have qs : S ef3 = 175 := by rw [ef3e]; exact q1
    have q2 : sz ≤ 22 := by rw [sz_e]; exact q2
    have q3 : ∀ i : Int, 0 ≤ i → i < sz → S (G 175 ef3 i) = 138 := by rw [sz_e, ef3e]; exact q3
    have g33 : Gr [173, 174, 175, 176, 177, 178] [(157, 0), (157, 1), (157, 2), (173, -1), (174, -1), (175, -1), (176, -1), (177, -1), (178, -1)] S G S (up G 157 this 0 w2) := (gr_up (gr_refl [173, 174, 175, 176, 177, 178] [(157, 0), (157, 1), (157, 2), (173, -1), (174, -1), (175, -1), (176, -1), (177, -1), (178, -1)] S G) rfl)
    refine r_callV gd hX hP rfl cv_Jx4a65c_131_157 hS (d' := 12) (mc' := 1) (ms' := 33) (as' := [(2, e), (2, ef3), (0, sz)]) (st := []) (by omega) (by omega) (by omega) rfl rfl (Nat.le_of_ble_eq_true rfl) (c_ad3_Lpi_2 E S (up G 157 this 0 w2) this e ef3 sz hS e_s qs (by omega) (by omega) sz_e ef3e q3) ?_
    rintro _ S34 G35 ⟨g36, rfl, q37, q38⟩
    have s39 : S34 this = 157 := gr_lab g36 hS (by decide)
    have s40 : S34 e = 138 := gr_lab g36 e_s (by decide)
    have s41 : S34 ef3 = 175 := gr_lab g36 qs (by decide)
    have g42 : Gr [173, 174, 175, 176, 177, 178] [(157, 0), (157, 1), (157, 2), (173, -1), (174, -1), (175, -1), (176, -1), (177, -1), (178, -1)] S G S34 G35 := gr_call g33 g36 rfl rfl
    refine r_ex hX hP 1 (pc' := 24) (st' := [(0, 1)]) (lo' := [(0, (2, this)), (1, (2, e))]) rfl ?_
    exact r_retZ hX hP rfl rfl (by omega) (by omega) (by omega) (by omega) ⟨g42, 1, rfl, (by omega), (by omega), (ci_ad3 ci tk0 g42 rfl rfl hS q37 (by have e := q38; omega)), q38⟩
  · skip
    have qs : S ef3 = 176 := by rw [ef3e]; exact q1
    have q2 : sz ≤ 33 := by rw [sz_e]; exact q2
    have q3 : ∀ i : Int, 0 ≤ i → i < sz → S (G 176 ef3 i) = 138 := by rw [sz_e, ef3e]; exact q3
    have g43 : Gr [173, 174, 175, 176, 177, 178] [(157, 0), (157, 1), (157, 2), (173, -1), (174, -1), (175, -1), (176, -1), (177, -1), (178, -1)] S G S (up G 157 this 0 w2) := (gr_up (gr_refl [173, 174, 175, 176, 177, 178] [(157, 0), (157, 1), (157, 2), (173, -1), (174, -1), (175, -1), (176, -1), (177, -1), (178, -1)] S G) rfl)
    refine r_callV gd hX hP rfl cv_Jx4a65c_131_157 hS (d' := 12) (mc' := 1) (ms' := 49) (as' := [(2, e), (2, ef3), (0, sz)]) (st := []) (by omega) (by omega) (by omega) rfl rfl (Nat.le_of_ble_eq_true rfl) (c_ad3_Lpi_3 E S (up G 157 this 0 w2) this e ef3 sz hS e_s qs (by omega) (by omega) sz_e ef3e q3) ?_
    rintro _ S44 G45 ⟨g46, rfl, q47, q48⟩
    have s49 : S44 this = 157 := gr_lab g46 hS (by decide)
    have s50 : S44 e = 138 := gr_lab g46 e_s (by decide)
    have s51 : S44 ef3 = 176 := gr_lab g46 qs (by decide)
    have g52 : Gr [173, 174, 175, 176, 177, 178] [(157, 0), (157, 1), (157, 2), (173, -1), (174, -1), (175, -1), (176, -1), (177, -1), (178, -1)] S G S44 G45 := gr_call g43 g46 rfl rfl
    refine r_ex hX hP 1 (pc' := 24) (st' := [(0, 1)]) (lo' := [(0, (2, this)), (1, (2, e))]) rfl ?_
    exact r_retZ hX hP rfl rfl (by omega) (by omega) (by omega) (by omega) ⟨g52, 1, rfl, (by omega), (by omega), (ci_ad3 ci tk0 g52 rfl rfl hS q47 (by have e := q48; omega)), q48⟩
  · skip
    have qs : S ef3 = 177 := by rw [ef3e]; exact q1
    have q2 : sz ≤ 49 := by rw [sz_e]; exact q2
    have q3 : ∀ i : Int, 0 ≤ i → i < sz → S (G 177 ef3 i) = 138 := by rw [sz_e, ef3e]; exact q3
    have g53 : Gr [173, 174, 175, 176, 177, 178] [(157, 0), (157, 1), (157, 2), (173, -1), (174, -1), (175, -1), (176, -1), (177, -1), (178, -1)] S G S (up G 157 this 0 w2) := (gr_up (gr_refl [173, 174, 175, 176, 177, 178] [(157, 0), (157, 1), (157, 2), (173, -1), (174, -1), (175, -1), (176, -1), (177, -1), (178, -1)] S G) rfl)
    refine r_callV gd hX hP rfl cv_Jx4a65c_131_157 hS (d' := 12) (mc' := 1) (ms' := 73) (as' := [(2, e), (2, ef3), (0, sz)]) (st := []) (by omega) (by omega) (by omega) rfl rfl (Nat.le_of_ble_eq_true rfl) (c_ad3_Lpi_4 E S (up G 157 this 0 w2) this e ef3 sz hS e_s qs (by omega) (by omega) sz_e ef3e q3) ?_
    rintro _ S54 G55 ⟨g56, rfl, q57, q58⟩
    have s59 : S54 this = 157 := gr_lab g56 hS (by decide)
    have s60 : S54 e = 138 := gr_lab g56 e_s (by decide)
    have s61 : S54 ef3 = 177 := gr_lab g56 qs (by decide)
    have g62 : Gr [173, 174, 175, 176, 177, 178] [(157, 0), (157, 1), (157, 2), (173, -1), (174, -1), (175, -1), (176, -1), (177, -1), (178, -1)] S G S54 G55 := gr_call g53 g56 rfl rfl
    refine r_ex hX hP 1 (pc' := 24) (st' := [(0, 1)]) (lo' := [(0, (2, this)), (1, (2, e))]) rfl ?_
    exact r_retZ hX hP rfl rfl (by omega) (by omega) (by omega) (by omega) ⟨g62, 1, rfl, (by omega), (by omega), (ci_ad3 ci tk0 g62 rfl rfl hS q57 (by have e := q58; omega)), q58⟩
  · skip
    have qs : S ef3 = 178 := by rw [ef3e]; exact q1
    have q2 : sz ≤ 73 := by rw [sz_e]; exact q2
    have q3 : ∀ i : Int, 0 ≤ i → i < sz → S (G 178 ef3 i) = 138 := by rw [sz_e, ef3e]; exact q3
    have g63 : Gr [173, 174, 175, 176, 177, 178] [(157, 0), (157, 1), (157, 2), (173, -1), (174, -1), (175, -1), (176, -1), (177, -1), (178, -1)] S G S (up G 157 this 0 w2) := (gr_up (gr_refl [173, 174, 175, 176, 177, 178] [(157, 0), (157, 1), (157, 2), (173, -1), (174, -1), (175, -1), (176, -1), (177, -1), (178, -1)] S G) rfl)
    refine r_callV gd hX hP rfl cv_Jx4a65c_131_157 hS (d' := 12) (mc' := 0) (ms' := 0) (as' := [(2, e), (2, ef3), (0, sz)]) (st := []) (by omega) (by omega) (by omega) rfl rfl (Nat.le_of_ble_eq_true rfl) (c_ad3_Lpi_5 E S (up G 157 this 0 w2) this e ef3 sz hS e_s qs (by omega) (by omega) sz_e ef3e q3) ?_
    rintro _ S64 G65 ⟨g66, rfl, q67, q68⟩
    have s69 : S64 this = 157 := gr_lab g66 hS (by decide)
    have s70 : S64 e = 138 := gr_lab g66 e_s (by decide)
    have s71 : S64 ef3 = 178 := gr_lab g66 qs (by decide)
    have e72 : ef3 = G65 157 this 1 := gr_val g66 ef3e hS (by decide) rfl
    have g73 : Gr [173, 174, 175, 176, 177, 178] [(157, 0), (157, 1), (157, 2), (173, -1), (174, -1), (175, -1), (176, -1), (177, -1), (178, -1)] S G S64 G65 := gr_call g63 g66 rfl rfl
    refine r_ex hX hP 1 (pc' := 24) (st' := [(0, 1)]) (lo' := [(0, (2, this)), (1, (2, e))]) rfl ?_
    exact r_retZ hX hP rfl rfl (by omega) (by omega) (by omega) (by omega) ⟨g73, 1, rfl, (by omega), (by omega), (ci_ad3 ci tk0 g73 rfl rfl hS q67 (by have e := q68; omega)), q68⟩
set_option maxRecDepth 100000 in
set_option maxHeartbeats 4000000 in
theorem c_add_Lop (E : En) (S : Sg) (G : Gh) (this : Int) (e : Int) (hS : S this = 158) (e_s : S e = 141) (sz : Int) (sz_e : sz = G 158 this 2) (pre0 : sz + 1 ≤ 10) (ci : CI E S G) : Calls E mJx4a65c_add_9ea2d [(2, this), (2, e)] S G 14 1 10 (fun r S' G' => Gr [179] [(158, 0), (158, 1), (158, 2), (179, -1)] S G S' G' ∧ ∃ z : Int, r = some (0, z) ∧ 1 ≤ z ∧ z ≤ 1 ∧ CI E S' G' ∧ G' 158 this 2 = sz + 1) := by
  refine calls_by [(0, (2, this)), (1, (2, e))] rfl rfl (Nat.le_of_ble_eq_true rfl) (fun X hX => ?_)
  have hP := hPJx4a65c_add_9ea2d
  refine r_peekI hX (tl_158 2 rfl (by decide)) hS (fun sz_o sz_oe sz_oa sz_ob => ?_)
  obtain rfl : sz = sz_o := sz_e.trans sz_oe.symm
  refine r_tk hX (fun tk0 => ?_)
  refine r_ex hX hP 2 (pc' := 2) (st' := [(2, this), (2, this)]) (lo' := [(0, (2, this)), (1, (2, e))]) rfl ?_
  refine r_getUI hX hP rfl fu_158 hS (fun mf1 mf1e mf1a mf1b => ?_)
  refine r_ex hX hP 2 (pc' := 7) (st' := [(0, (mf1 + 1)), (2, this)]) (lo' := [(0, (2, this)), (1, (2, e))]) rfl ?_
  refine r_hvI hX (fun w2 w2a w2b w2e => ?_)
  refine r_putUI hX hP rfl fu_158 hS (by omega) (by omega) ?_
  refine r_ex hX hP 3 (pc' := 13) (st' := [(2, this), (2, e), (2, this)]) (lo' := [(0, (2, this)), (1, (2, e))]) rfl ?_
  refine r_get5 hX hP rfl fl_Jx4a65c_9_158 hS (fun ef3 ef3e ef3o => ?_)
  refine r_ex hX hP 1 (pc' := 17) (st' := [(2, this), (2, ef3), (2, e), (2, this)]) (lo' := [(0, (2, this)), (1, (2, e))]) rfl ?_
  refine r_getKI hX hP rfl fl_Jx4a65c_48_158 hS (x := sz) sz_e ?_
  rcases ci.2.2.2.2.2.1 this hS with ⟨q1, q2⟩ | ⟨q1, q2, q3⟩
  · skip
    obtain rfl : ef3 = Ad E 0 := ef3e.trans q1
    have q2 : sz = 0 := sz_e.trans q2
    have g4 : Gr [179] [(158, 0), (158, 1), (158, 2), (179, -1)] S G S (up G 158 this 0 w2) := (gr_up (gr_refl [179] [(158, 0), (158, 1), (158, 2), (179, -1)] S G) rfl)
    refine r_callV gd hX hP rfl cv_Jx4a65c_131_158 hS (d' := 12) (mc' := 1) (ms' := 10) (as' := [(2, e), (2, (Ad E 0)), (0, sz)]) (st := []) (by omega) (by omega) (by omega) rfl rfl (Nat.le_of_ble_eq_true rfl) (c_ad3_Lop_E E S (up G 158 this 0 w2) this e (Ad E 0) sz hS e_s (by omega) (by omega) sz_e rfl ef3e) ?_
    rintro _ S5 G6 ⟨g7, rfl, q8, q9⟩
    have s10 : S5 this = 158 := gr_lab g7 hS (by decide)
    have s11 : S5 e = 141 := gr_lab g7 e_s (by decide)
    have g12 : Gr [179] [(158, 0), (158, 1), (158, 2), (179, -1)] S G S5 G6 := gr_call g4 g7 rfl rfl
    refine r_ex hX hP 1 (pc' := 24) (st' := [(0, 1)]) (lo' := [(0, (2, this)), (1, (2, e))]) rfl ?_
    exact r_retZ hX hP rfl rfl (by omega) (by omega) (by omega) (by omega) ⟨g12, 1, rfl, (by omega), (by omega), (ci_ad4 ci tk0 g12 rfl rfl hS q8 (by have e := q9; omega)), q9⟩
  · skip
    have qs : S ef3 = 179 := by rw [ef3e]; exact q1
    have q2 : sz ≤ 10 := by rw [sz_e]; exact q2
    have q3 : ∀ i : Int, 0 ≤ i → i < sz → S (G 179 ef3 i) = 141 := by rw [sz_e, ef3e]; exact q3
    have g13 : Gr [179] [(158, 0), (158, 1), (158, 2), (179, -1)] S G S (up G 158 this 0 w2) := (gr_up (gr_refl [179] [(158, 0), (158, 1), (158, 2), (179, -1)] S G) rfl)
    refine r_callV gd hX hP rfl cv_Jx4a65c_131_158 hS (d' := 12) (mc' := 0) (ms' := 0) (as' := [(2, e), (2, ef3), (0, sz)]) (st := []) (by omega) (by omega) (by omega) rfl rfl (Nat.le_of_ble_eq_true rfl) (c_ad3_Lop_0 E S (up G 158 this 0 w2) this e ef3 sz hS e_s qs (by omega) (by omega) sz_e ef3e q3) ?_
    rintro _ S14 G15 ⟨g16, rfl, q17, q18⟩
    have s19 : S14 this = 158 := gr_lab g16 hS (by decide)
    have s20 : S14 e = 141 := gr_lab g16 e_s (by decide)
    have s21 : S14 ef3 = 179 := gr_lab g16 qs (by decide)
    have e22 : ef3 = G15 158 this 1 := gr_val g16 ef3e hS (by decide) rfl
    have g23 : Gr [179] [(158, 0), (158, 1), (158, 2), (179, -1)] S G S14 G15 := gr_call g13 g16 rfl rfl
    refine r_ex hX hP 1 (pc' := 24) (st' := [(0, 1)]) (lo' := [(0, (2, this)), (1, (2, e))]) rfl ?_
    exact r_retZ hX hP rfl rfl (by omega) (by omega) (by omega) (by omega) ⟨g23, 1, rfl, (by omega), (by omega), (ci_ad4 ci tk0 g23 rfl rfl hS q17 (by have e := q18; omega)), q18⟩
set_option maxRecDepth 100000 in
set_option maxHeartbeats 4000000 in
theorem c_add_Lna (E : En) (S : Sg) (G : Gh) (this : Int) (e : Int) (hS : S this = 159) (e_s : S e = 141) (sz : Int) (sz_e : sz = G 159 this 2) (pre0 : sz + 1 ≤ 60) (ci : CI E S G) : Calls E mJx4a65c_add_9ea2d [(2, this), (2, e)] S G 14 1 73 (fun r S' G' => Gr [180, 181, 182, 183, 184, 185] [(159, 0), (159, 1), (159, 2), (180, -1), (181, -1), (182, -1), (183, -1), (184, -1), (185, -1)] S G S' G' ∧ ∃ z : Int, r = some (0, z) ∧ 1 ≤ z ∧ z ≤ 1 ∧ CI E S' G' ∧ G' 159 this 2 = sz + 1) := by
  refine calls_by [(0, (2, this)), (1, (2, e))] rfl rfl (Nat.le_of_ble_eq_true rfl) (fun X hX => ?_)
  have hP := hPJx4a65c_add_9ea2d
  refine r_peekI hX (tl_159 2 rfl (by decide)) hS (fun sz_o sz_oe sz_oa sz_ob => ?_)
  obtain rfl : sz = sz_o := sz_e.trans sz_oe.symm
  refine r_tk hX (fun tk0 => ?_)
  refine r_ex hX hP 2 (pc' := 2) (st' := [(2, this), (2, this)]) (lo' := [(0, (2, this)), (1, (2, e))]) rfl ?_
  refine r_getUI hX hP rfl fu_159 hS (fun mf1 mf1e mf1a mf1b => ?_)
  refine r_ex hX hP 2 (pc' := 7) (st' := [(0, (mf1 + 1)), (2, this)]) (lo' := [(0, (2, this)), (1, (2, e))]) rfl ?_
  refine r_hvI hX (fun w2 w2a w2b w2e => ?_)
  refine r_putUI hX hP rfl fu_159 hS (by omega) (by omega) ?_
  refine r_ex hX hP 3 (pc' := 13) (st' := [(2, this), (2, e), (2, this)]) (lo' := [(0, (2, this)), (1, (2, e))]) rfl ?_
  refine r_get5 hX hP rfl fl_Jx4a65c_9_159 hS (fun ef3 ef3e ef3o => ?_)
  refine r_ex hX hP 1 (pc' := 17) (st' := [(2, this), (2, ef3), (2, e), (2, this)]) (lo' := [(0, (2, this)), (1, (2, e))]) rfl ?_
  refine r_getKI hX hP rfl fl_Jx4a65c_48_159 hS (x := sz) sz_e ?_
  rcases ci.2.2.2.2.2.2.1 this hS with ⟨q1, q2⟩ | ⟨q1, q2, q3⟩ | ⟨q1, q2, q3⟩ | ⟨q1, q2, q3⟩ | ⟨q1, q2, q3⟩ | ⟨q1, q2, q3⟩ | ⟨q1, q2, q3⟩
  · skip
    obtain rfl : ef3 = Ad E 0 := ef3e.trans q1
    have q2 : sz = 0 := sz_e.trans q2
    have g4 : Gr [180, 181, 182, 183, 184, 185] [(159, 0), (159, 1), (159, 2), (180, -1), (181, -1), (182, -1), (183, -1), (184, -1), (185, -1)] S G S (up G 159 this 0 w2) := (gr_up (gr_refl [180, 181, 182, 183, 184, 185] [(159, 0), (159, 1), (159, 2), (180, -1), (181, -1), (182, -1), (183, -1), (184, -1), (185, -1)] S G) rfl)
    refine r_callV gd hX hP rfl cv_Jx4a65c_131_159 hS (d' := 12) (mc' := 1) (ms' := 10) (as' := [(2, e), (2, (Ad E 0)), (0, sz)]) (st := []) (by omega) (by omega) (by omega) rfl rfl (Nat.le_of_ble_eq_true rfl) (c_ad3_Lna_E E S (up G 159 this 0 w2) this e (Ad E 0) sz hS e_s (by omega) (by omega) sz_e rfl ef3e) ?_
    rintro _ S5 G6 ⟨g7, rfl, q8, q9⟩
    have s10 : S5 this = 159 := gr_lab g7 hS (by decide)
    have s11 : S5 e = 141 := gr_lab g7 e_s (by decide)
    have g12 : Gr [180, 181, 182, 183, 184, 185] [(159, 0), (159, 1), (159, 2), (180, -1), (181, -1), (182, -1), (183, -1), (184, -1), (185, -1)] S G S5 G6 := gr_call g4 g7 rfl rfl
    refine r_ex hX hP 1 (pc' := 24) (st' := [(0, 1)]) (lo' := [(0, (2, this)), (1, (2, e))]) rfl ?_
    exact r_retZ hX hP rfl rfl (by omega) (by omega) (by omega) (by omega) ⟨g12, 1, rfl, (by omega), (by omega), (ci_ad5 ci tk0 g12 rfl rfl hS q8 (by have e := q9; omega)), q9⟩
  · skip
    have qs : S ef3 = 180 := by rw [ef3e]; exact q1
    have q2 : sz ≤ 10 := by rw [sz_e]; exact q2
    have q3 : ∀ i : Int, 0 ≤ i → i < sz → S (G 180 ef3 i) = 141 := by rw [sz_e, ef3e]; exact q3
    have g13 : Gr [180, 181, 182, 183, 184, 185] [(159, 0), (159, 1), (159, 2), (180, -1), (181, -1), (182, -1), (183, -1), (184, -1), (185, -1)] S G S (up G 159 this 0 w2) := (gr_up (gr_refl [180, 181, 182, 183, 184, 185] [(159, 0), (159, 1), (159, 2), (180, -1), (181, -1), (182, -1), (183, -1), (184, -1), (185, -1)] S G) rfl)
    refine r_callV gd hX hP rfl cv_Jx4a65c_131_159 hS (d' := 12) (mc' := 1) (ms' := 15) (as' := [(2, e), (2, ef3), (0, sz)]) (st := []) (by omega) (by omega) (by omega) rfl rfl (Nat.le_of_ble_eq_true rfl) (c_ad3_Lna_0 E S (up G 159 this 0 w2) this e ef3 sz hS e_s qs (by omega) (by omega) sz_e ef3e q3) ?_
    rintro _ S14 G15 ⟨g16, rfl, q17, q18⟩
    have s19 : S14 this = 159 := gr_lab g16 hS (by decide)
    have s20 : S14 e = 141 := gr_lab g16 e_s (by decide)
    have s21 : S14 ef3 = 180 := gr_lab g16 qs (by decide)
    have g22 : Gr [180, 181, 182, 183, 184, 185] [(159, 0), (159, 1), (159, 2), (180, -1), (181, -1), (182, -1), (183, -1), (184, -1), (185, -1)] S G S14 G15 := gr_call g13 g16 rfl rfl
    refine r_ex hX hP 1 (pc' := 24) (st' := [(0, 1)]) (lo' := [(0, (2, this)), (1, (2, e))]) rfl ?_
    exact r_retZ hX hP rfl rfl (by omega) (by omega) (by omega) (by omega) ⟨g22, 1, rfl, (by omega), (by omega), (ci_ad5 ci tk0 g22 rfl rfl hS q17 (by have e := q18; omega)), q18⟩
  · skip
    have qs : S ef3 = 181 := by rw [ef3e]; exact q1
    have q2 : sz ≤ 15 := by rw [sz_e]; exact q2
    have q3 : ∀ i : Int, 0 ≤ i → i < sz → S (G 181 ef3 i) = 141 := by rw [sz_e, ef3e]; exact q3
    have g23 : Gr [180, 181, 182, 183, 184, 185] [(159, 0), (159, 1), (159, 2), (180, -1), (181, -1), (182, -1), (183, -1), (184, -1), (185, -1)] S G S (up G 159 this 0 w2) := (gr_up (gr_refl [180, 181, 182, 183, 184, 185] [(159, 0), (159, 1), (159, 2), (180, -1), (181, -1), (182, -1), (183, -1), (184, -1), (185, -1)] S G) rfl)
    refine r_callV gd hX hP rfl cv_Jx4a65c_131_159 hS (d' := 12) (mc' := 1) (ms' := 22) (as' := [(2, e), (2, ef3), (0, sz)]) (st := []) (by omega) (by omega) (by omega) rfl rfl (Nat.le_of_ble_eq_true rfl) (c_ad3_Lna_1 E S (up G 159 this 0 w2) this e ef3 sz hS e_s qs (by omega) (by omega) sz_e ef3e q3) ?_
    rintro _ S24 G25 ⟨g26, rfl, q27, q28⟩
    have s29 : S24 this = 159 := gr_lab g26 hS (by decide)
    have s30 : S24 e = 141 := gr_lab g26 e_s (by decide)
    have s31 : S24 ef3 = 181 := gr_lab g26 qs (by decide)
    have g32 : Gr [180, 181, 182, 183, 184, 185] [(159, 0), (159, 1), (159, 2), (180, -1), (181, -1), (182, -1), (183, -1), (184, -1), (185, -1)] S G S24 G25 := gr_call g23 g26 rfl rfl
    refine r_ex hX hP 1 (pc' := 24) (st' := [(0, 1)]) (lo' := [(0, (2, this)), (1, (2, e))]) rfl ?_
    exact r_retZ hX hP rfl rfl (by omega) (by omega) (by omega) (by omega) ⟨g32, 1, rfl, (by omega), (by omega), (ci_ad5 ci tk0 g32 rfl rfl hS q27 (by have e := q28; omega)), q28⟩
  · skip
    have qs : S ef3 = 182 := by rw [ef3e]; exact q1
    have q2 : sz ≤ 22 := by rw [sz_e]; exact q2
    have q3 : ∀ i : Int, 0 ≤ i → i < sz → S (G 182 ef3 i) = 141 := by rw [sz_e, ef3e]; exact q3
    have g33 : Gr [180, 181, 182, 183, 184, 185] [(159, 0), (159, 1), (159, 2), (180, -1), (181, -1), (182, -1), (183, -1), (184, -1), (185, -1)] S G S (up G 159 this 0 w2) := (gr_up (gr_refl [180, 181, 182, 183, 184, 185] [(159, 0), (159, 1), (159, 2), (180, -1), (181, -1), (182, -1), (183, -1), (184, -1), (185, -1)] S G) rfl)
    refine r_callV gd hX hP rfl cv_Jx4a65c_131_159 hS (d' := 12) (mc' := 1) (ms' := 33) (as' := [(2, e), (2, ef3), (0, sz)]) (st := []) (by omega) (by omega) (by omega) rfl rfl (Nat.le_of_ble_eq_true rfl) (c_ad3_Lna_2 E S (up G 159 this 0 w2) this e ef3 sz hS e_s qs (by omega) (by omega) sz_e ef3e q3) ?_
    rintro _ S34 G35 ⟨g36, rfl, q37, q38⟩
    have s39 : S34 this = 159 := gr_lab g36 hS (by decide)
    have s40 : S34 e = 141 := gr_lab g36 e_s (by decide)
    have s41 : S34 ef3 = 182 := gr_lab g36 qs (by decide)
    have g42 : Gr [180, 181, 182, 183, 184, 185] [(159, 0), (159, 1), (159, 2), (180, -1), (181, -1), (182, -1), (183, -1), (184, -1), (185, -1)] S G S34 G35 := gr_call g33 g36 rfl rfl
    refine r_ex hX hP 1 (pc' := 24) (st' := [(0, 1)]) (lo' := [(0, (2, this)), (1, (2, e))]) rfl ?_
    exact r_retZ hX hP rfl rfl (by omega) (by omega) (by omega) (by omega) ⟨g42, 1, rfl, (by omega), (by omega), (ci_ad5 ci tk0 g42 rfl rfl hS q37 (by have e := q38; omega)), q38⟩
  · skip
    have qs : S ef3 = 183 := by rw [ef3e]; exact q1
    have q2 : sz ≤ 33 := by rw [sz_e]; exact q2
    have q3 : ∀ i : Int, 0 ≤ i → i < sz → S (G 183 ef3 i) = 141 := by rw [sz_e, ef3e]; exact q3
    have g43 : Gr [180, 181, 182, 183, 184, 185] [(159, 0), (159, 1), (159, 2), (180, -1), (181, -1), (182, -1), (183, -1), (184, -1), (185, -1)] S G S (up G 159 this 0 w2) := (gr_up (gr_refl [180, 181, 182, 183, 184, 185] [(159, 0), (159, 1), (159, 2), (180, -1), (181, -1), (182, -1), (183, -1), (184, -1), (185, -1)] S G) rfl)
    refine r_callV gd hX hP rfl cv_Jx4a65c_131_159 hS (d' := 12) (mc' := 1) (ms' := 49) (as' := [(2, e), (2, ef3), (0, sz)]) (st := []) (by omega) (by omega) (by omega) rfl rfl (Nat.le_of_ble_eq_true rfl) (c_ad3_Lna_3 E S (up G 159 this 0 w2) this e ef3 sz hS e_s qs (by omega) (by omega) sz_e ef3e q3) ?_
    rintro _ S44 G45 ⟨g46, rfl, q47, q48⟩
    have s49 : S44 this = 159 := gr_lab g46 hS (by decide)
    have s50 : S44 e = 141 := gr_lab g46 e_s (by decide)
    have s51 : S44 ef3 = 183 := gr_lab g46 qs (by decide)
    have g52 : Gr [180, 181, 182, 183, 184, 185] [(159, 0), (159, 1), (159, 2), (180, -1), (181, -1), (182, -1), (183, -1), (184, -1), (185, -1)] S G S44 G45 := gr_call g43 g46 rfl rfl
    refine r_ex hX hP 1 (pc' := 24) (st' := [(0, 1)]) (lo' := [(0, (2, this)), (1, (2, e))]) rfl ?_
    exact r_retZ hX hP rfl rfl (by omega) (by omega) (by omega) (by omega) ⟨g52, 1, rfl, (by omega), (by omega), (ci_ad5 ci tk0 g52 rfl rfl hS q47 (by have e := q48; omega)), q48⟩
  · skip
    have qs : S ef3 = 184 := by rw [ef3e]; exact q1
    have q2 : sz ≤ 49 := by rw [sz_e]; exact q2
    have q3 : ∀ i : Int, 0 ≤ i → i < sz → S (G 184 ef3 i) = 141 := by rw [sz_e, ef3e]; exact q3
    have g53 : Gr [180, 181, 182, 183, 184, 185] [(159, 0), (159, 1), (159, 2), (180, -1), (181, -1), (182, -1), (183, -1), (184, -1), (185, -1)] S G S (up G 159 this 0 w2) := (gr_up (gr_refl [180, 181, 182, 183, 184, 185] [(159, 0), (159, 1), (159, 2), (180, -1), (181, -1), (182, -1), (183, -1), (184, -1), (185, -1)] S G) rfl)
    refine r_callV gd hX hP rfl cv_Jx4a65c_131_159 hS (d' := 12) (mc' := 1) (ms' := 73) (as' := [(2, e), (2, ef3), (0, sz)]) (st := []) (by omega) (by omega) (by omega) rfl rfl (Nat.le_of_ble_eq_true rfl) (c_ad3_Lna_4 E S (up G 159 this 0 w2) this e ef3 sz hS e_s qs (by omega) (by omega) sz_e ef3e q3) ?_
    rintro _ S54 G55 ⟨g56, rfl, q57, q58⟩
    have s59 : S54 this = 159 := gr_lab g56 hS (by decide)
    have s60 : S54 e = 141 := gr_lab g56 e_s (by decide)
    have s61 : S54 ef3 = 184 := gr_lab g56 qs (by decide)
    have g62 : Gr [180, 181, 182, 183, 184, 185] [(159, 0), (159, 1), (159, 2), (180, -1), (181, -1), (182, -1), (183, -1), (184, -1), (185, -1)] S G S54 G55 := gr_call g53 g56 rfl rfl
    refine r_ex hX hP 1 (pc' := 24) (st' := [(0, 1)]) (lo' := [(0, (2, this)), (1, (2, e))]) rfl ?_
    exact r_retZ hX hP rfl rfl (by omega) (by omega) (by omega) (by omega) ⟨g62, 1, rfl, (by omega), (by omega), (ci_ad5 ci tk0 g62 rfl rfl hS q57 (by have e := q58; omega)), q58⟩
  · skip
    have qs : S ef3 = 185 := by rw [ef3e]; exact q1
    have q2 : sz ≤ 73 := by rw [sz_e]; exact q2
    have q3 : ∀ i : Int, 0 ≤ i → i < sz → S (G 185 ef3 i) = 141 := by rw [sz_e, ef3e]; exact q3
    have g63 : Gr [180, 181, 182, 183, 184, 185] [(159, 0), (159, 1), (159, 2), (180, -1), (181, -1), (182, -1), (183, -1), (184, -1), (185, -1)] S G S (up G 159 this 0 w2) := (gr_up (gr_refl [180, 181, 182, 183, 184, 185] [(159, 0), (159, 1), (159, 2), (180, -1), (181, -1), (182, -1), (183, -1), (184, -1), (185, -1)] S G) rfl)
    refine r_callV gd hX hP rfl cv_Jx4a65c_131_159 hS (d' := 12) (mc' := 0) (ms' := 0) (as' := [(2, e), (2, ef3), (0, sz)]) (st := []) (by omega) (by omega) (by omega) rfl rfl (Nat.le_of_ble_eq_true rfl) (c_ad3_Lna_5 E S (up G 159 this 0 w2) this e ef3 sz hS e_s qs (by omega) (by omega) sz_e ef3e q3) ?_
    rintro _ S64 G65 ⟨g66, rfl, q67, q68⟩
    have s69 : S64 this = 159 := gr_lab g66 hS (by decide)
    have s70 : S64 e = 141 := gr_lab g66 e_s (by decide)
    have s71 : S64 ef3 = 185 := gr_lab g66 qs (by decide)
    have e72 : ef3 = G65 159 this 1 := gr_val g66 ef3e hS (by decide) rfl
    have g73 : Gr [180, 181, 182, 183, 184, 185] [(159, 0), (159, 1), (159, 2), (180, -1), (181, -1), (182, -1), (183, -1), (184, -1), (185, -1)] S G S64 G65 := gr_call g63 g66 rfl rfl
    refine r_ex hX hP 1 (pc' := 24) (st' := [(0, 1)]) (lo' := [(0, (2, this)), (1, (2, e))]) rfl ?_
    exact r_retZ hX hP rfl rfl (by omega) (by omega) (by omega) (by omega) ⟨g73, 1, rfl, (by omega), (by omega), (ci_ad5 ci tk0 g73 rfl rfl hS q67 (by have e := q68; omega)), q68⟩
