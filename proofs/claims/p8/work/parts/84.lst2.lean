section RUU
variable {E : En} {M : Mk} {as : List Vl} {d mc ms : Nat} {Y : Option Vl → Sg → Gh → Prop} {X : Xp} {cs ss : Nat} {S : Sg} {G : Gh} {P : Cod} {pc tgt idx : Nat} {st : List Vl} {lo : Lo} {x y off a L : Int}
/-- a field that a superclass declares -/
def FlU (own : String) (idx : Nat) (L : Int) (j : Nat) (t : Ty) : Prop := ∃ (ci N : Nat) (fs : List Ty) (C : String) (T : u_T) (ref : String), lbls[L.toNat]? = some (.inl (ci, fs)) ∧ fs.length = N ∧ j < N ∧ fs.getD j (0, 0, 0) = t ∧ L ≠ 0 ∧ vwCl[ci]? = some (C, T, N) ∧ Cf ci N ∧ Cond.fieldLink own idx ref (T j).2.1 (T j).2.2.1 ∈ tb ∧ Cond.sameField ref (T j).1 (T j).2.1 (T j).2.2.1 ∈ tb ∧ (T j).2.2.2 = false ∧ parseFieldDescriptor (T j).2.2.1 = some .int
theorem r_getUI (hX : Cl E M as d mc ms Y X) (hP : Dec M.2.1 P) (hf : fd P pc = some (.getfield idx, 3)) {j : Nat} {l h : Int} (hF : FlU M.1.cls idx L j (0, l, h)) (hS : S a = L) (k : ∀ v : Int, v = G L a j → l ≤ v → v ≤ h → X cs ss (pc + 3) ((0, v) :: st) lo S G) : X cs ss pc ((2, a) :: st) lo S G := by
  obtain ⟨p, e, z, m, below, meth, c, hx, hb, hr, hml, hown, hlk, hnm, hts, hK, rfl⟩ := hX
  obtain ⟨ci, N, fs, C, T, ref, f1, f2, f3, f4, f5, f6, f7, f8, f9, -, -⟩ := hF
  intro H locs ls hR hz hL hl
  obtain ⟨ha, hb0, hc⟩ := rep_at hR hS f5
  unfold cel at hc
  rw [f1] at hc
  obtain ⟨⟨cell, c1, c2, c3, c4⟩, c5⟩ := hc
  have hv := c5 j (by first | decide | omega)
  rw [f4] at hv
  have k := k _ rfl hv.1 hv.2 H locs ls hR hz hL hl
  obtain ⟨w1, -, -⟩ := f7.tw f6
  obtain ⟨hSl, hfc, kC, hkC, hkind⟩ := hK.1.1 ci _ f6
  obtain ⟨cf, kf, fi, f, hi, hsl⟩ := hSl j f3
  simp only [ts, List.map_cons] at k ⊢
  rw [tv2 ha]
  refine W.getf hx hb hown (hts _ f8) (u_same (hts _ f9) _ hi) (u_facts hfc hkC (u_lays hts w1 f3) hi).1 c1 (by rw [c3]; exact fun h => by cases h) (v := tv (0, G L a j)) ?_ rfl rfl (fd_dec hP hf) k
  rw [hsl, c4 j (by first | decide | omega)]
  show some (tv ((fs.getD j (0, 0, 0)).1, G L a j)) = _
  rw [f4]
theorem r_putUI (hX : Cl E M as d mc ms Y X) (hP : Dec M.2.1 P) (hf : fd P pc = some (.putfield idx, 3)) {j : Nat} {l h v : Int} (hF : FlU M.1.cls idx L j (0, l, h)) (hS : S a = L) (v1 : l ≤ v) (v2 : v ≤ h) (k : X cs ss (pc + 3) st lo S (up G L a j v)) : X cs ss pc ((0, v) :: (2, a) :: st) lo S G := by
  obtain ⟨p, e, z, m, below, meth, c, hx, hb, hr, hml, hown, hlk, hnm, hts, hK, rfl⟩ := hX
  obtain ⟨ci, N, fs, C, T, ref, f1, f2, f3, f4, f5, f6, f7, f8, f9, g3, g4⟩ := hF
  intro H locs ls hR hz hL hl
  obtain ⟨ha, hb0, hc⟩ := rep_at hR hS f5
  unfold cel at hc
  rw [f1] at hc
  obtain ⟨⟨cell, c1, c2, c3, c4⟩, c5⟩ := hc
  obtain ⟨w1, ⟨ty0, w2⟩, w3⟩ := f7.tw f6
  have hap := va_apart (own := M.1.cls) hts w1 ty0 w2 w3 hK.1 f6
  obtain ⟨hSl, hfc, kC, hkC, hkind⟩ := hK.1.1 ci _ f6
  obtain ⟨cf, kf, fi, f, hi, hsl⟩ := hSl j f3
  have hlay := hts _ (w1 _ (u_in_lay f3))
  unfold u_lay at hlay
  rw [if_neg (by rw [g3]; decide)] at hlay
  have hst := (u_facts hfc hkC (u_lays hts w1 f3) hi).1
  have h6 := u_store (v := tv (0, v)) hfc hkC hkind hlay hi g4 rfl rfl
  simp only [ts, List.map_cons]
  rw [tv2 ha]
  refine W.putK hx hb (f := f) ⟨hown, hts _ f8, ⟨_, _, _, u_same (hts _ f9) _ hi⟩, hst⟩ (by rw [c2]; exact h6) c1 c3 (by rw [hsl]; exact k2_hasslot (c4 j (by first | decide | omega))) rfl rfl (fd_dec hP hf) fun H' e1 e2 e3 => ?_
  rw [hsl] at e1 ⊢
  refine k H' _ ls (rep_up hR hS f5 e2 e3 ?_) (by rw [e2]; exact hz) ?_ hl
  · unfold cel
    rw [f1]
    subst f2
    refine ⟨t_OB.to ⟨_, e1, c2, c3, t_set c4 hap f3 (tv (0, v))⟩ (fun i hi => ?_), fun i hi => ?_⟩
    · by_cases ei : i = j
      · subst ei
        simp only [updV, if_true]
        rw [f4, up_self]
      · simp only [updV, if_neg ei]
        rw [up_ne (fun q => ei (by first | decide | omega))]
    · by_cases ei : i = j
      · subst ei
        rw [f4, up_self]
        exact ⟨v1, v2⟩
      · rw [up_ne (fun q => ei (by first | decide | omega))]
        exact c5 i hi
  · intro q hq
    rcases List.mem_append.mp hq with h9 | h9
    · exact hL q h9
    · rw [List.mem_singleton.mp h9]
      exact hb0
end RUU
section CIA
variable {E : En} {S S' : Sg} {G G' : Gh} {nl : List Int} {ws : List (Int × Int)} {a : Int}
def djx (cf ws : List (Int × Int)) : Bool := cf.all (fun q => ws.all (fun p => !(p.1 == q.1 && (p.2 == -1 || q.2 == -1 || p.2 == q.2))))
theorem djx_out {cf ws : List (Int × Int)} (h : djx cf ws = true) {q : Int × Int} (hq : q ∈ cf) {j : Int} (hj : q.2 = -1 ∨ q.2 = j) : inm ws q.1 j = false := by
  cases e : inm ws q.1 j with
  | false => rfl
  | true =>
    exfalso
    obtain ⟨p, hp, e1, e2⟩ := inm_iff.mp e
    have h1 := List.all_eq_true.mp (List.all_eq_true.mp h q hq) p hp
    simp only [Bool.not_eq_true', Bool.and_eq_false_iff, Bool.or_eq_false_iff, beq_eq_false_iff_ne, ne_eq] at h1
    rcases h1 with h1 | h1
    · exact h1 e1
    · rcases e2 with e2 | e2
      · exact h1.1.1 e2
      · rcases hj with hj | hj
        · exact h1.1.2 hj
        · exact h1.2 (e2.trans hj.symm)
theorem gr_cx {cf : List (Int × Int)} (g : Gr nl ws S G S' G') (c2 : djx cf ws = true) {x L j : Int} (q : Int × Int) (hq : q ∈ cf) (e : q.1 = L) (hj : q.2 = -1 ∨ q.2 = j) (hx : S x = L) (hL : L ≠ 0) : G' L x j = G L x j := gr_at g hx hL (by subst e; exact djx_out c2 hq hj)
def cif0 : List (Int × Int) := [(120, -1), (121, -1), (136, 3), (136, 5), (138, 2), (155, 1), (155, 2), (156, 1), (156, 2), (157, 1), (157, 2), (158, 1), (158, 2), (159, 1), (159, 2), (165, -1), (166, -1), (167, -1), (168, -1), (169, -1), (170, -1), (171, -1), (172, -1), (173, -1), (174, -1), (175, -1), (176, -1), (177, -1), (178, -1), (179, -1), (180, -1), (181, -1), (182, -1), (183, -1), (184, -1), (185, -1)]
theorem ci_ad0 (h : CI E S G) (tk : TKP S G) (g : Gr nl ws S G S' G') (c1 : nlk nl = true) (c2 : djx cif0 ws = true) (hS : S a = 154) (lb : LB0 E S' G' a) (hz : G 154 a 2 ≤ G' 154 a 2) : CI E S' G' := by
  obtain ⟨a0, a1, a2, a3, a4, a5, a6, a7, a8, a9⟩ := h
  refine ⟨?_, ?_, ?_, ?_, ?_, ?_, ?_, ?_, ?_, ?_⟩
  · intro a b hab hu
    have ha := gr_bk g c1 (by unfold cil; rw [hu]; rfl) (rfl : S' a = S' a)
    have hb := gr_bk g c1 (by unfold cil; rw [hu]; rfl) hab.symm
    exact a0 a b (ha.trans hb.symm) (by rw [ha]; exact hu)
  · intro l hl
    have hl := gr_bk g c1 rfl hl
    rw [a0 l a (hl.trans hS.symm) (by rw [hl]; rfl)]
    exact lb
  · intro l hl
    have hl := gr_bk g c1 rfl hl
    rw [(gr_cx g c2 (155, 1) (by decide) (L := 155) (j := 1) rfl (Or.inr rfl) hl (by decide)), (gr_cx g c2 (155, 2) (by decide) (L := 155) (j := 2) rfl (Or.inr rfl) hl (by decide))]
    rcases a2 l hl with q | ⟨q1, q2, q3⟩ | ⟨q1, q2, q3⟩ | ⟨q1, q2, q3⟩ | ⟨q1, q2, q3⟩ | ⟨q1, q2, q3⟩
    · exact Or.inl q
    · exact Or.inr (Or.inl (⟨gr_lab g q1 (by decide), q2, fun i h0 h1 => by rw [(gr_cx g c2 (165, -1) (by decide) (L := 165) rfl (Or.inl rfl) q1 (by decide))]; exact gr_lab g (q3 i h0 h1) (by decide)⟩))
    · exact Or.inr (Or.inr (Or.inl (⟨gr_lab g q1 (by decide), q2, fun i h0 h1 => by rw [(gr_cx g c2 (166, -1) (by decide) (L := 166) rfl (Or.inl rfl) q1 (by decide))]; exact gr_lab g (q3 i h0 h1) (by decide)⟩)))
    · exact Or.inr (Or.inr (Or.inr (Or.inl (⟨gr_lab g q1 (by decide), q2, fun i h0 h1 => by rw [(gr_cx g c2 (167, -1) (by decide) (L := 167) rfl (Or.inl rfl) q1 (by decide))]; exact gr_lab g (q3 i h0 h1) (by decide)⟩))))
    · exact Or.inr (Or.inr (Or.inr (Or.inr (Or.inl (⟨gr_lab g q1 (by decide), q2, fun i h0 h1 => by rw [(gr_cx g c2 (168, -1) (by decide) (L := 168) rfl (Or.inl rfl) q1 (by decide))]; exact gr_lab g (q3 i h0 h1) (by decide)⟩)))))
    · exact Or.inr (Or.inr (Or.inr (Or.inr (Or.inr (⟨gr_lab g q1 (by decide), q2, fun i h0 h1 => by rw [(gr_cx g c2 (169, -1) (by decide) (L := 169) rfl (Or.inl rfl) q1 (by decide))]; exact gr_lab g (q3 i h0 h1) (by decide)⟩)))))
  · intro l hl
    have hl := gr_bk g c1 rfl hl
    rw [(gr_cx g c2 (156, 1) (by decide) (L := 156) (j := 1) rfl (Or.inr rfl) hl (by decide)), (gr_cx g c2 (156, 2) (by decide) (L := 156) (j := 2) rfl (Or.inr rfl) hl (by decide))]
    rcases a3 l hl with q | ⟨q1, q2, q3⟩ | ⟨q1, q2, q3⟩ | ⟨q1, q2, q3⟩
    · exact Or.inl q
    · exact Or.inr (Or.inl (⟨gr_lab g q1 (by decide), q2, fun i h0 h1 => by rw [(gr_cx g c2 (170, -1) (by decide) (L := 170) rfl (Or.inl rfl) q1 (by decide))]; exact gr_lab g (q3 i h0 h1) (by decide)⟩))
    · exact Or.inr (Or.inr (Or.inl (⟨gr_lab g q1 (by decide), q2, fun i h0 h1 => by rw [(gr_cx g c2 (171, -1) (by decide) (L := 171) rfl (Or.inl rfl) q1 (by decide))]; exact gr_lab g (q3 i h0 h1) (by decide)⟩)))
    · exact Or.inr (Or.inr (Or.inr (⟨gr_lab g q1 (by decide), q2, fun i h0 h1 => by rw [(gr_cx g c2 (172, -1) (by decide) (L := 172) rfl (Or.inl rfl) q1 (by decide))]; exact gr_lab g (q3 i h0 h1) (by decide)⟩)))
  · intro l hl
    have hl := gr_bk g c1 rfl hl
    rw [(gr_cx g c2 (157, 1) (by decide) (L := 157) (j := 1) rfl (Or.inr rfl) hl (by decide)), (gr_cx g c2 (157, 2) (by decide) (L := 157) (j := 2) rfl (Or.inr rfl) hl (by decide))]
    rcases a4 l hl with q | ⟨q1, q2, q3⟩ | ⟨q1, q2, q3⟩ | ⟨q1, q2, q3⟩ | ⟨q1, q2, q3⟩ | ⟨q1, q2, q3⟩ | ⟨q1, q2, q3⟩
    · exact Or.inl q
    · exact Or.inr (Or.inl (⟨gr_lab g q1 (by decide), q2, fun i h0 h1 => by rw [(gr_cx g c2 (173, -1) (by decide) (L := 173) rfl (Or.inl rfl) q1 (by decide))]; exact gr_lab g (q3 i h0 h1) (by decide)⟩))
    · exact Or.inr (Or.inr (Or.inl (⟨gr_lab g q1 (by decide), q2, fun i h0 h1 => by rw [(gr_cx g c2 (174, -1) (by decide) (L := 174) rfl (Or.inl rfl) q1 (by decide))]; exact gr_lab g (q3 i h0 h1) (by decide)⟩)))
    · exact Or.inr (Or.inr (Or.inr (Or.inl (⟨gr_lab g q1 (by decide), q2, fun i h0 h1 => by rw [(gr_cx g c2 (175, -1) (by decide) (L := 175) rfl (Or.inl rfl) q1 (by decide))]; exact gr_lab g (q3 i h0 h1) (by decide)⟩))))
    · exact Or.inr (Or.inr (Or.inr (Or.inr (Or.inl (⟨gr_lab g q1 (by decide), q2, fun i h0 h1 => by rw [(gr_cx g c2 (176, -1) (by decide) (L := 176) rfl (Or.inl rfl) q1 (by decide))]; exact gr_lab g (q3 i h0 h1) (by decide)⟩)))))
    · exact Or.inr (Or.inr (Or.inr (Or.inr (Or.inr (Or.inl (⟨gr_lab g q1 (by decide), q2, fun i h0 h1 => by rw [(gr_cx g c2 (177, -1) (by decide) (L := 177) rfl (Or.inl rfl) q1 (by decide))]; exact gr_lab g (q3 i h0 h1) (by decide)⟩))))))
    · exact Or.inr (Or.inr (Or.inr (Or.inr (Or.inr (Or.inr (⟨gr_lab g q1 (by decide), q2, fun i h0 h1 => by rw [(gr_cx g c2 (178, -1) (by decide) (L := 178) rfl (Or.inl rfl) q1 (by decide))]; exact gr_lab g (q3 i h0 h1) (by decide)⟩))))))
  · intro l hl
    have hl := gr_bk g c1 rfl hl
    rw [(gr_cx g c2 (158, 1) (by decide) (L := 158) (j := 1) rfl (Or.inr rfl) hl (by decide)), (gr_cx g c2 (158, 2) (by decide) (L := 158) (j := 2) rfl (Or.inr rfl) hl (by decide))]
    rcases a5 l hl with q | ⟨q1, q2, q3⟩
    · exact Or.inl q
    · exact Or.inr (⟨gr_lab g q1 (by decide), q2, fun i h0 h1 => by rw [(gr_cx g c2 (179, -1) (by decide) (L := 179) rfl (Or.inl rfl) q1 (by decide))]; exact gr_lab g (q3 i h0 h1) (by decide)⟩)
  · intro l hl
    have hl := gr_bk g c1 rfl hl
    rw [(gr_cx g c2 (159, 1) (by decide) (L := 159) (j := 1) rfl (Or.inr rfl) hl (by decide)), (gr_cx g c2 (159, 2) (by decide) (L := 159) (j := 2) rfl (Or.inr rfl) hl (by decide))]
    rcases a6 l hl with q | ⟨q1, q2, q3⟩ | ⟨q1, q2, q3⟩ | ⟨q1, q2, q3⟩ | ⟨q1, q2, q3⟩ | ⟨q1, q2, q3⟩ | ⟨q1, q2, q3⟩
    · exact Or.inl q
    · exact Or.inr (Or.inl (⟨gr_lab g q1 (by decide), q2, fun i h0 h1 => by rw [(gr_cx g c2 (180, -1) (by decide) (L := 180) rfl (Or.inl rfl) q1 (by decide))]; exact gr_lab g (q3 i h0 h1) (by decide)⟩))
    · exact Or.inr (Or.inr (Or.inl (⟨gr_lab g q1 (by decide), q2, fun i h0 h1 => by rw [(gr_cx g c2 (181, -1) (by decide) (L := 181) rfl (Or.inl rfl) q1 (by decide))]; exact gr_lab g (q3 i h0 h1) (by decide)⟩)))
    · exact Or.inr (Or.inr (Or.inr (Or.inl (⟨gr_lab g q1 (by decide), q2, fun i h0 h1 => by rw [(gr_cx g c2 (182, -1) (by decide) (L := 182) rfl (Or.inl rfl) q1 (by decide))]; exact gr_lab g (q3 i h0 h1) (by decide)⟩))))
    · exact Or.inr (Or.inr (Or.inr (Or.inr (Or.inl (⟨gr_lab g q1 (by decide), q2, fun i h0 h1 => by rw [(gr_cx g c2 (183, -1) (by decide) (L := 183) rfl (Or.inl rfl) q1 (by decide))]; exact gr_lab g (q3 i h0 h1) (by decide)⟩)))))
    · exact Or.inr (Or.inr (Or.inr (Or.inr (Or.inr (Or.inl (⟨gr_lab g q1 (by decide), q2, fun i h0 h1 => by rw [(gr_cx g c2 (184, -1) (by decide) (L := 184) rfl (Or.inl rfl) q1 (by decide))]; exact gr_lab g (q3 i h0 h1) (by decide)⟩))))))
    · exact Or.inr (Or.inr (Or.inr (Or.inr (Or.inr (Or.inr (⟨gr_lab g q1 (by decide), q2, fun i h0 h1 => by rw [(gr_cx g c2 (185, -1) (by decide) (L := 185) rfl (Or.inl rfl) q1 (by decide))]; exact gr_lab g (q3 i h0 h1) (by decide)⟩))))))
  · intro t ht i h0 h1 hh
    have ht := gr_bk g c1 rfl ht
    rw [(gr_cx g c2 (136, 3) (by decide) (L := 136) (j := 3) rfl (Or.inr rfl) ht (by decide)), (gr_cx g c2 (120, -1) (by decide) (L := 120) rfl (Or.inl rfl) (tk t ht).1 (by decide))] at hh
    rw [(gr_cx g c2 (136, 5) (by decide) (L := 136) (j := 5) rfl (Or.inr rfl) ht (by decide)), (gr_cx g c2 (121, -1) (by decide) (L := 121) rfl (Or.inl rfl) (tk t ht).2 (by decide))]
    exact a7 t ht i h0 h1 hh
  · intro t u ht hu hh
    have ht := gr_bk g c1 rfl ht
    have hu := gr_bk g c1 rfl hu
    rw [(gr_cx g c2 (136, 3) (by decide) (L := 136) (j := 3) rfl (Or.inr rfl) ht (by decide)), (gr_cx g c2 (136, 3) (by decide) (L := 136) (j := 3) rfl (Or.inr rfl) hu (by decide)), (gr_cx g c2 (136, 5) (by decide) (L := 136) (j := 5) rfl (Or.inr rfl) ht (by decide)), (gr_cx g c2 (136, 5) (by decide) (L := 136) (j := 5) rfl (Or.inr rfl) hu (by decide))] at hh
    exact a8 t u ht hu hh
  · intro p l hp hl
    have hp := gr_bk g c1 rfl hp
    have hl := gr_bk g c1 rfl hl
    rw [(gr_cx g c2 (138, 2) (by decide) (L := 138) (j := 2) rfl (Or.inr rfl) hp (by decide)), (gr_cx g c2 (156, 2) (by decide) (L := 156) (j := 2) rfl (Or.inr rfl) hl (by decide))]
    exact a9 p l hp hl
def cif1 : List (Int × Int) := [(120, -1), (121, -1), (136, 3), (136, 5), (138, 2), (154, 1), (154, 2), (156, 1), (156, 2), (157, 1), (157, 2), (158, 1), (158, 2), (159, 1), (159, 2), (160, -1), (161, -1), (162, -1), (163, -1), (164, -1), (170, -1), (171, -1), (172, -1), (173, -1), (174, -1), (175, -1), (176, -1), (177, -1), (178, -1), (179, -1), (180, -1), (181, -1), (182, -1), (183, -1), (184, -1), (185, -1)]
theorem ci_ad1 (h : CI E S G) (tk : TKP S G) (g : Gr nl ws S G S' G') (c1 : nlk nl = true) (c2 : djx cif1 ws = true) (hS : S a = 155) (lb : LB1 E S' G' a) (hz : G 155 a 2 ≤ G' 155 a 2) : CI E S' G' := by
  obtain ⟨a0, a1, a2, a3, a4, a5, a6, a7, a8, a9⟩ := h
  refine ⟨?_, ?_, ?_, ?_, ?_, ?_, ?_, ?_, ?_, ?_⟩
  · intro a b hab hu
    have ha := gr_bk g c1 (by unfold cil; rw [hu]; rfl) (rfl : S' a = S' a)
    have hb := gr_bk g c1 (by unfold cil; rw [hu]; rfl) hab.symm
    exact a0 a b (ha.trans hb.symm) (by rw [ha]; exact hu)
  · intro l hl
    have hl := gr_bk g c1 rfl hl
    rw [(gr_cx g c2 (154, 1) (by decide) (L := 154) (j := 1) rfl (Or.inr rfl) hl (by decide)), (gr_cx g c2 (154, 2) (by decide) (L := 154) (j := 2) rfl (Or.inr rfl) hl (by decide))]
    rcases a1 l hl with q | ⟨q1, q2, q3⟩ | ⟨q1, q2, q3⟩ | ⟨q1, q2, q3⟩ | ⟨q1, q2, q3⟩ | ⟨q1, q2, q3⟩
    · exact Or.inl q
    · exact Or.inr (Or.inl (⟨gr_lab g q1 (by decide), q2, fun i h0 h1 => by rw [(gr_cx g c2 (160, -1) (by decide) (L := 160) rfl (Or.inl rfl) q1 (by decide))]; exact gr_lab g (q3 i h0 h1) (by decide)⟩))
    · exact Or.inr (Or.inr (Or.inl (⟨gr_lab g q1 (by decide), q2, fun i h0 h1 => by rw [(gr_cx g c2 (161, -1) (by decide) (L := 161) rfl (Or.inl rfl) q1 (by decide))]; exact gr_lab g (q3 i h0 h1) (by decide)⟩)))
    · exact Or.inr (Or.inr (Or.inr (Or.inl (⟨gr_lab g q1 (by decide), q2, fun i h0 h1 => by rw [(gr_cx g c2 (162, -1) (by decide) (L := 162) rfl (Or.inl rfl) q1 (by decide))]; exact gr_lab g (q3 i h0 h1) (by decide)⟩))))
    · exact Or.inr (Or.inr (Or.inr (Or.inr (Or.inl (⟨gr_lab g q1 (by decide), q2, fun i h0 h1 => by rw [(gr_cx g c2 (163, -1) (by decide) (L := 163) rfl (Or.inl rfl) q1 (by decide))]; exact gr_lab g (q3 i h0 h1) (by decide)⟩)))))
    · exact Or.inr (Or.inr (Or.inr (Or.inr (Or.inr (⟨gr_lab g q1 (by decide), q2, fun i h0 h1 => by rw [(gr_cx g c2 (164, -1) (by decide) (L := 164) rfl (Or.inl rfl) q1 (by decide))]; exact gr_lab g (q3 i h0 h1) (by decide)⟩)))))
  · intro l hl
    have hl := gr_bk g c1 rfl hl
    rw [a0 l a (hl.trans hS.symm) (by rw [hl]; rfl)]
    exact lb
  · intro l hl
    have hl := gr_bk g c1 rfl hl
    rw [(gr_cx g c2 (156, 1) (by decide) (L := 156) (j := 1) rfl (Or.inr rfl) hl (by decide)), (gr_cx g c2 (156, 2) (by decide) (L := 156) (j := 2) rfl (Or.inr rfl) hl (by decide))]
    rcases a3 l hl with q | ⟨q1, q2, q3⟩ | ⟨q1, q2, q3⟩ | ⟨q1, q2, q3⟩
    · exact Or.inl q
    · exact Or.inr (Or.inl (⟨gr_lab g q1 (by decide), q2, fun i h0 h1 => by rw [(gr_cx g c2 (170, -1) (by decide) (L := 170) rfl (Or.inl rfl) q1 (by decide))]; exact gr_lab g (q3 i h0 h1) (by decide)⟩))
    · exact Or.inr (Or.inr (Or.inl (⟨gr_lab g q1 (by decide), q2, fun i h0 h1 => by rw [(gr_cx g c2 (171, -1) (by decide) (L := 171) rfl (Or.inl rfl) q1 (by decide))]; exact gr_lab g (q3 i h0 h1) (by decide)⟩)))
    · exact Or.inr (Or.inr (Or.inr (⟨gr_lab g q1 (by decide), q2, fun i h0 h1 => by rw [(gr_cx g c2 (172, -1) (by decide) (L := 172) rfl (Or.inl rfl) q1 (by decide))]; exact gr_lab g (q3 i h0 h1) (by decide)⟩)))
  · intro l hl
    have hl := gr_bk g c1 rfl hl
    rw [(gr_cx g c2 (157, 1) (by decide) (L := 157) (j := 1) rfl (Or.inr rfl) hl (by decide)), (gr_cx g c2 (157, 2) (by decide) (L := 157) (j := 2) rfl (Or.inr rfl) hl (by decide))]
    rcases a4 l hl with q | ⟨q1, q2, q3⟩ | ⟨q1, q2, q3⟩ | ⟨q1, q2, q3⟩ | ⟨q1, q2, q3⟩ | ⟨q1, q2, q3⟩ | ⟨q1, q2, q3⟩
    · exact Or.inl q
    · exact Or.inr (Or.inl (⟨gr_lab g q1 (by decide), q2, fun i h0 h1 => by rw [(gr_cx g c2 (173, -1) (by decide) (L := 173) rfl (Or.inl rfl) q1 (by decide))]; exact gr_lab g (q3 i h0 h1) (by decide)⟩))
    · exact Or.inr (Or.inr (Or.inl (⟨gr_lab g q1 (by decide), q2, fun i h0 h1 => by rw [(gr_cx g c2 (174, -1) (by decide) (L := 174) rfl (Or.inl rfl) q1 (by decide))]; exact gr_lab g (q3 i h0 h1) (by decide)⟩)))
    · exact Or.inr (Or.inr (Or.inr (Or.inl (⟨gr_lab g q1 (by decide), q2, fun i h0 h1 => by rw [(gr_cx g c2 (175, -1) (by decide) (L := 175) rfl (Or.inl rfl) q1 (by decide))]; exact gr_lab g (q3 i h0 h1) (by decide)⟩))))
    · exact Or.inr (Or.inr (Or.inr (Or.inr (Or.inl (⟨gr_lab g q1 (by decide), q2, fun i h0 h1 => by rw [(gr_cx g c2 (176, -1) (by decide) (L := 176) rfl (Or.inl rfl) q1 (by decide))]; exact gr_lab g (q3 i h0 h1) (by decide)⟩)))))
    · exact Or.inr (Or.inr (Or.inr (Or.inr (Or.inr (Or.inl (⟨gr_lab g q1 (by decide), q2, fun i h0 h1 => by rw [(gr_cx g c2 (177, -1) (by decide) (L := 177) rfl (Or.inl rfl) q1 (by decide))]; exact gr_lab g (q3 i h0 h1) (by decide)⟩))))))
    · exact Or.inr (Or.inr (Or.inr (Or.inr (Or.inr (Or.inr (⟨gr_lab g q1 (by decide), q2, fun i h0 h1 => by rw [(gr_cx g c2 (178, -1) (by decide) (L := 178) rfl (Or.inl rfl) q1 (by decide))]; exact gr_lab g (q3 i h0 h1) (by decide)⟩))))))
  · intro l hl
    have hl := gr_bk g c1 rfl hl
    rw [(gr_cx g c2 (158, 1) (by decide) (L := 158) (j := 1) rfl (Or.inr rfl) hl (by decide)), (gr_cx g c2 (158, 2) (by decide) (L := 158) (j := 2) rfl (Or.inr rfl) hl (by decide))]
    rcases a5 l hl with q | ⟨q1, q2, q3⟩
    · exact Or.inl q
    · exact Or.inr (⟨gr_lab g q1 (by decide), q2, fun i h0 h1 => by rw [(gr_cx g c2 (179, -1) (by decide) (L := 179) rfl (Or.inl rfl) q1 (by decide))]; exact gr_lab g (q3 i h0 h1) (by decide)⟩)
  · intro l hl
    have hl := gr_bk g c1 rfl hl
    rw [(gr_cx g c2 (159, 1) (by decide) (L := 159) (j := 1) rfl (Or.inr rfl) hl (by decide)), (gr_cx g c2 (159, 2) (by decide) (L := 159) (j := 2) rfl (Or.inr rfl) hl (by decide))]
    rcases a6 l hl with q | ⟨q1, q2, q3⟩ | ⟨q1, q2, q3⟩ | ⟨q1, q2, q3⟩ | ⟨q1, q2, q3⟩ | ⟨q1, q2, q3⟩ | ⟨q1, q2, q3⟩
    · exact Or.inl q
    · exact Or.inr (Or.inl (⟨gr_lab g q1 (by decide), q2, fun i h0 h1 => by rw [(gr_cx g c2 (180, -1) (by decide) (L := 180) rfl (Or.inl rfl) q1 (by decide))]; exact gr_lab g (q3 i h0 h1) (by decide)⟩))
    · exact Or.inr (Or.inr (Or.inl (⟨gr_lab g q1 (by decide), q2, fun i h0 h1 => by rw [(gr_cx g c2 (181, -1) (by decide) (L := 181) rfl (Or.inl rfl) q1 (by decide))]; exact gr_lab g (q3 i h0 h1) (by decide)⟩)))
    · exact Or.inr (Or.inr (Or.inr (Or.inl (⟨gr_lab g q1 (by decide), q2, fun i h0 h1 => by rw [(gr_cx g c2 (182, -1) (by decide) (L := 182) rfl (Or.inl rfl) q1 (by decide))]; exact gr_lab g (q3 i h0 h1) (by decide)⟩))))
    · exact Or.inr (Or.inr (Or.inr (Or.inr (Or.inl (⟨gr_lab g q1 (by decide), q2, fun i h0 h1 => by rw [(gr_cx g c2 (183, -1) (by decide) (L := 183) rfl (Or.inl rfl) q1 (by decide))]; exact gr_lab g (q3 i h0 h1) (by decide)⟩)))))
    · exact Or.inr (Or.inr (Or.inr (Or.inr (Or.inr (Or.inl (⟨gr_lab g q1 (by decide), q2, fun i h0 h1 => by rw [(gr_cx g c2 (184, -1) (by decide) (L := 184) rfl (Or.inl rfl) q1 (by decide))]; exact gr_lab g (q3 i h0 h1) (by decide)⟩))))))
    · exact Or.inr (Or.inr (Or.inr (Or.inr (Or.inr (Or.inr (⟨gr_lab g q1 (by decide), q2, fun i h0 h1 => by rw [(gr_cx g c2 (185, -1) (by decide) (L := 185) rfl (Or.inl rfl) q1 (by decide))]; exact gr_lab g (q3 i h0 h1) (by decide)⟩))))))
  · intro t ht i h0 h1 hh
    have ht := gr_bk g c1 rfl ht
    rw [(gr_cx g c2 (136, 3) (by decide) (L := 136) (j := 3) rfl (Or.inr rfl) ht (by decide)), (gr_cx g c2 (120, -1) (by decide) (L := 120) rfl (Or.inl rfl) (tk t ht).1 (by decide))] at hh
    rw [(gr_cx g c2 (136, 5) (by decide) (L := 136) (j := 5) rfl (Or.inr rfl) ht (by decide)), (gr_cx g c2 (121, -1) (by decide) (L := 121) rfl (Or.inl rfl) (tk t ht).2 (by decide))]
    exact a7 t ht i h0 h1 hh
  · intro t u ht hu hh
    have ht := gr_bk g c1 rfl ht
    have hu := gr_bk g c1 rfl hu
    rw [(gr_cx g c2 (136, 3) (by decide) (L := 136) (j := 3) rfl (Or.inr rfl) ht (by decide)), (gr_cx g c2 (136, 3) (by decide) (L := 136) (j := 3) rfl (Or.inr rfl) hu (by decide)), (gr_cx g c2 (136, 5) (by decide) (L := 136) (j := 5) rfl (Or.inr rfl) ht (by decide)), (gr_cx g c2 (136, 5) (by decide) (L := 136) (j := 5) rfl (Or.inr rfl) hu (by decide))] at hh
    exact a8 t u ht hu hh
  · intro p l hp hl
    have hp := gr_bk g c1 rfl hp
    have hl := gr_bk g c1 rfl hl
    rw [(gr_cx g c2 (138, 2) (by decide) (L := 138) (j := 2) rfl (Or.inr rfl) hp (by decide)), (gr_cx g c2 (156, 2) (by decide) (L := 156) (j := 2) rfl (Or.inr rfl) hl (by decide))]
    exact a9 p l hp hl
def cif2 : List (Int × Int) := [(120, -1), (121, -1), (136, 3), (136, 5), (138, 2), (154, 1), (154, 2), (155, 1), (155, 2), (157, 1), (157, 2), (158, 1), (158, 2), (159, 1), (159, 2), (160, -1), (161, -1), (162, -1), (163, -1), (164, -1), (165, -1), (166, -1), (167, -1), (168, -1), (169, -1), (173, -1), (174, -1), (175, -1), (176, -1), (177, -1), (178, -1), (179, -1), (180, -1), (181, -1), (182, -1), (183, -1), (184, -1), (185, -1)]
theorem ci_ad2 (h : CI E S G) (tk : TKP S G) (g : Gr nl ws S G S' G') (c1 : nlk nl = true) (c2 : djx cif2 ws = true) (hS : S a = 156) (lb : LB2 E S' G' a) (hz : G 156 a 2 ≤ G' 156 a 2) : CI E S' G' := by
  obtain ⟨a0, a1, a2, a3, a4, a5, a6, a7, a8, a9⟩ := h
  refine ⟨?_, ?_, ?_, ?_, ?_, ?_, ?_, ?_, ?_, ?_⟩
  · intro a b hab hu
    have ha := gr_bk g c1 (by unfold cil; rw [hu]; rfl) (rfl : S' a = S' a)
    have hb := gr_bk g c1 (by unfold cil; rw [hu]; rfl) hab.symm
    exact a0 a b (ha.trans hb.symm) (by rw [ha]; exact hu)
  · intro l hl
    have hl := gr_bk g c1 rfl hl
    rw [(gr_cx g c2 (154, 1) (by decide) (L := 154) (j := 1) rfl (Or.inr rfl) hl (by decide)), (gr_cx g c2 (154, 2) (by decide) (L := 154) (j := 2) rfl (Or.inr rfl) hl (by decide))]
    rcases a1 l hl with q | ⟨q1, q2, q3⟩ | ⟨q1, q2, q3⟩ | ⟨q1, q2, q3⟩ | ⟨q1, q2, q3⟩ | ⟨q1, q2, q3⟩
    · exact Or.inl q
    · exact Or.inr (Or.inl (⟨gr_lab g q1 (by decide), q2, fun i h0 h1 => by rw [(gr_cx g c2 (160, -1) (by decide) (L := 160) rfl (Or.inl rfl) q1 (by decide))]; exact gr_lab g (q3 i h0 h1) (by decide)⟩))
    · exact Or.inr (Or.inr (Or.inl (⟨gr_lab g q1 (by decide), q2, fun i h0 h1 => by rw [(gr_cx g c2 (161, -1) (by decide) (L := 161) rfl (Or.inl rfl) q1 (by decide))]; exact gr_lab g (q3 i h0 h1) (by decide)⟩)))
    · exact Or.inr (Or.inr (Or.inr (Or.inl (⟨gr_lab g q1 (by decide), q2, fun i h0 h1 => by rw [(gr_cx g c2 (162, -1) (by decide) (L := 162) rfl (Or.inl rfl) q1 (by decide))]; exact gr_lab g (q3 i h0 h1) (by decide)⟩))))
    · exact Or.inr (Or.inr (Or.inr (Or.inr (Or.inl (⟨gr_lab g q1 (by decide), q2, fun i h0 h1 => by rw [(gr_cx g c2 (163, -1) (by decide) (L := 163) rfl (Or.inl rfl) q1 (by decide))]; exact gr_lab g (q3 i h0 h1) (by decide)⟩)))))
    · exact Or.inr (Or.inr (Or.inr (Or.inr (Or.inr (⟨gr_lab g q1 (by decide), q2, fun i h0 h1 => by rw [(gr_cx g c2 (164, -1) (by decide) (L := 164) rfl (Or.inl rfl) q1 (by decide))]; exact gr_lab g (q3 i h0 h1) (by decide)⟩)))))
  · intro l hl
    have hl := gr_bk g c1 rfl hl
    rw [(gr_cx g c2 (155, 1) (by decide) (L := 155) (j := 1) rfl (Or.inr rfl) hl (by decide)), (gr_cx g c2 (155, 2) (by decide) (L := 155) (j := 2) rfl (Or.inr rfl) hl (by decide))]
    rcases a2 l hl with q | ⟨q1, q2, q3⟩ | ⟨q1, q2, q3⟩ | ⟨q1, q2, q3⟩ | ⟨q1, q2, q3⟩ | ⟨q1, q2, q3⟩
    · exact Or.inl q
    · exact Or.inr (Or.inl (⟨gr_lab g q1 (by decide), q2, fun i h0 h1 => by rw [(gr_cx g c2 (165, -1) (by decide) (L := 165) rfl (Or.inl rfl) q1 (by decide))]; exact gr_lab g (q3 i h0 h1) (by decide)⟩))
    · exact Or.inr (Or.inr (Or.inl (⟨gr_lab g q1 (by decide), q2, fun i h0 h1 => by rw [(gr_cx g c2 (166, -1) (by decide) (L := 166) rfl (Or.inl rfl) q1 (by decide))]; exact gr_lab g (q3 i h0 h1) (by decide)⟩)))
    · exact Or.inr (Or.inr (Or.inr (Or.inl (⟨gr_lab g q1 (by decide), q2, fun i h0 h1 => by rw [(gr_cx g c2 (167, -1) (by decide) (L := 167) rfl (Or.inl rfl) q1 (by decide))]; exact gr_lab g (q3 i h0 h1) (by decide)⟩))))
    · exact Or.inr (Or.inr (Or.inr (Or.inr (Or.inl (⟨gr_lab g q1 (by decide), q2, fun i h0 h1 => by rw [(gr_cx g c2 (168, -1) (by decide) (L := 168) rfl (Or.inl rfl) q1 (by decide))]; exact gr_lab g (q3 i h0 h1) (by decide)⟩)))))
    · exact Or.inr (Or.inr (Or.inr (Or.inr (Or.inr (⟨gr_lab g q1 (by decide), q2, fun i h0 h1 => by rw [(gr_cx g c2 (169, -1) (by decide) (L := 169) rfl (Or.inl rfl) q1 (by decide))]; exact gr_lab g (q3 i h0 h1) (by decide)⟩)))))
  · intro l hl
    have hl := gr_bk g c1 rfl hl
    rw [a0 l a (hl.trans hS.symm) (by rw [hl]; rfl)]
    exact lb
  · intro l hl
    have hl := gr_bk g c1 rfl hl
    rw [(gr_cx g c2 (157, 1) (by decide) (L := 157) (j := 1) rfl (Or.inr rfl) hl (by decide)), (gr_cx g c2 (157, 2) (by decide) (L := 157) (j := 2) rfl (Or.inr rfl) hl (by decide))]
    rcases a4 l hl with q | ⟨q1, q2, q3⟩ | ⟨q1, q2, q3⟩ | ⟨q1, q2, q3⟩ | ⟨q1, q2, q3⟩ | ⟨q1, q2, q3⟩ | ⟨q1, q2, q3⟩
    · exact Or.inl q
    · exact Or.inr (Or.inl (⟨gr_lab g q1 (by decide), q2, fun i h0 h1 => by rw [(gr_cx g c2 (173, -1) (by decide) (L := 173) rfl (Or.inl rfl) q1 (by decide))]; exact gr_lab g (q3 i h0 h1) (by decide)⟩))
    · exact Or.inr (Or.inr (Or.inl (⟨gr_lab g q1 (by decide), q2, fun i h0 h1 => by rw [(gr_cx g c2 (174, -1) (by decide) (L := 174) rfl (Or.inl rfl) q1 (by decide))]; exact gr_lab g (q3 i h0 h1) (by decide)⟩)))
    · exact Or.inr (Or.inr (Or.inr (Or.inl (⟨gr_lab g q1 (by decide), q2, fun i h0 h1 => by rw [(gr_cx g c2 (175, -1) (by decide) (L := 175) rfl (Or.inl rfl) q1 (by decide))]; exact gr_lab g (q3 i h0 h1) (by decide)⟩))))
    · exact Or.inr (Or.inr (Or.inr (Or.inr (Or.inl (⟨gr_lab g q1 (by decide), q2, fun i h0 h1 => by rw [(gr_cx g c2 (176, -1) (by decide) (L := 176) rfl (Or.inl rfl) q1 (by decide))]; exact gr_lab g (q3 i h0 h1) (by decide)⟩)))))
    · exact Or.inr (Or.inr (Or.inr (Or.inr (Or.inr (Or.inl (⟨gr_lab g q1 (by decide), q2, fun i h0 h1 => by rw [(gr_cx g c2 (177, -1) (by decide) (L := 177) rfl (Or.inl rfl) q1 (by decide))]; exact gr_lab g (q3 i h0 h1) (by decide)⟩))))))
    · exact Or.inr (Or.inr (Or.inr (Or.inr (Or.inr (Or.inr (⟨gr_lab g q1 (by decide), q2, fun i h0 h1 => by rw [(gr_cx g c2 (178, -1) (by decide) (L := 178) rfl (Or.inl rfl) q1 (by decide))]; exact gr_lab g (q3 i h0 h1) (by decide)⟩))))))
  · intro l hl
    have hl := gr_bk g c1 rfl hl
    rw [(gr_cx g c2 (158, 1) (by decide) (L := 158) (j := 1) rfl (Or.inr rfl) hl (by decide)), (gr_cx g c2 (158, 2) (by decide) (L := 158) (j := 2) rfl (Or.inr rfl) hl (by decide))]
    rcases a5 l hl with q | ⟨q1, q2, q3⟩
    · exact Or.inl q
    · exact Or.inr (⟨gr_lab g q1 (by decide), q2, fun i h0 h1 => by rw [(gr_cx g c2 (179, -1) (by decide) (L := 179) rfl (Or.inl rfl) q1 (by decide))]; exact gr_lab g (q3 i h0 h1) (by decide)⟩)
  · intro l hl
    have hl := gr_bk g c1 rfl hl
    rw [(gr_cx g c2 (159, 1) (by decide) (L := 159) (j := 1) rfl (Or.inr rfl) hl (by decide)), (gr_cx g c2 (159, 2) (by decide) (L := 159) (j := 2) rfl (Or.inr rfl) hl (by decide))]
    rcases a6 l hl with q | ⟨q1, q2, q3⟩ | ⟨q1, q2, q3⟩ | ⟨q1, q2, q3⟩ | ⟨q1, q2, q3⟩ | ⟨q1, q2, q3⟩ | ⟨q1, q2, q3⟩
    · exact Or.inl q
    · exact Or.inr (Or.inl (⟨gr_lab g q1 (by decide), q2, fun i h0 h1 => by rw [(gr_cx g c2 (180, -1) (by decide) (L := 180) rfl (Or.inl rfl) q1 (by decide))]; exact gr_lab g (q3 i h0 h1) (by decide)⟩))
    · exact Or.inr (Or.inr (Or.inl (⟨gr_lab g q1 (by decide), q2, fun i h0 h1 => by rw [(gr_cx g c2 (181, -1) (by decide) (L := 181) rfl (Or.inl rfl) q1 (by decide))]; exact gr_lab g (q3 i h0 h1) (by decide)⟩)))
    · exact Or.inr (Or.inr (Or.inr (Or.inl (⟨gr_lab g q1 (by decide), q2, fun i h0 h1 => by rw [(gr_cx g c2 (182, -1) (by decide) (L := 182) rfl (Or.inl rfl) q1 (by decide))]; exact gr_lab g (q3 i h0 h1) (by decide)⟩))))
    · exact Or.inr (Or.inr (Or.inr (Or.inr (Or.inl (⟨gr_lab g q1 (by decide), q2, fun i h0 h1 => by rw [(gr_cx g c2 (183, -1) (by decide) (L := 183) rfl (Or.inl rfl) q1 (by decide))]; exact gr_lab g (q3 i h0 h1) (by decide)⟩)))))
    · exact Or.inr (Or.inr (Or.inr (Or.inr (Or.inr (Or.inl (⟨gr_lab g q1 (by decide), q2, fun i h0 h1 => by rw [(gr_cx g c2 (184, -1) (by decide) (L := 184) rfl (Or.inl rfl) q1 (by decide))]; exact gr_lab g (q3 i h0 h1) (by decide)⟩))))))
    · exact Or.inr (Or.inr (Or.inr (Or.inr (Or.inr (Or.inr (⟨gr_lab g q1 (by decide), q2, fun i h0 h1 => by rw [(gr_cx g c2 (185, -1) (by decide) (L := 185) rfl (Or.inl rfl) q1 (by decide))]; exact gr_lab g (q3 i h0 h1) (by decide)⟩))))))
  · intro t ht i h0 h1 hh
    have ht := gr_bk g c1 rfl ht
    rw [(gr_cx g c2 (136, 3) (by decide) (L := 136) (j := 3) rfl (Or.inr rfl) ht (by decide)), (gr_cx g c2 (120, -1) (by decide) (L := 120) rfl (Or.inl rfl) (tk t ht).1 (by decide))] at hh
    rw [(gr_cx g c2 (136, 5) (by decide) (L := 136) (j := 5) rfl (Or.inr rfl) ht (by decide)), (gr_cx g c2 (121, -1) (by decide) (L := 121) rfl (Or.inl rfl) (tk t ht).2 (by decide))]
    exact a7 t ht i h0 h1 hh
  · intro t u ht hu hh
    have ht := gr_bk g c1 rfl ht
    have hu := gr_bk g c1 rfl hu
    rw [(gr_cx g c2 (136, 3) (by decide) (L := 136) (j := 3) rfl (Or.inr rfl) ht (by decide)), (gr_cx g c2 (136, 3) (by decide) (L := 136) (j := 3) rfl (Or.inr rfl) hu (by decide)), (gr_cx g c2 (136, 5) (by decide) (L := 136) (j := 5) rfl (Or.inr rfl) ht (by decide)), (gr_cx g c2 (136, 5) (by decide) (L := 136) (j := 5) rfl (Or.inr rfl) hu (by decide))] at hh
    exact a8 t u ht hu hh
  · intro p l hp hl
    have hp := gr_bk g c1 rfl hp
    have hl := gr_bk g c1 rfl hl
    rw [(gr_cx g c2 (138, 2) (by decide) (L := 138) (j := 2) rfl (Or.inr rfl) hp (by decide))]
    have e := a0 l a (hl.trans hS.symm) (by rw [hl]; rfl)
    rw [e]
    have q := a9 p a hp hS
    omega
def cif3 : List (Int × Int) := [(120, -1), (121, -1), (136, 3), (136, 5), (138, 2), (154, 1), (154, 2), (155, 1), (155, 2), (156, 1), (156, 2), (158, 1), (158, 2), (159, 1), (159, 2), (160, -1), (161, -1), (162, -1), (163, -1), (164, -1), (165, -1), (166, -1), (167, -1), (168, -1), (169, -1), (170, -1), (171, -1), (172, -1), (179, -1), (180, -1), (181, -1), (182, -1), (183, -1), (184, -1), (185, -1)]
theorem ci_ad3 (h : CI E S G) (tk : TKP S G) (g : Gr nl ws S G S' G') (c1 : nlk nl = true) (c2 : djx cif3 ws = true) (hS : S a = 157) (lb : LB3 E S' G' a) (hz : G 157 a 2 ≤ G' 157 a 2) : CI E S' G' := by
  obtain ⟨a0, a1, a2, a3, a4, a5, a6, a7, a8, a9⟩ := h
  refine ⟨?_, ?_, ?_, ?_, ?_, ?_, ?_, ?_, ?_, ?_⟩
  · intro a b hab hu
    have ha := gr_bk g c1 (by unfold cil; rw [hu]; rfl) (rfl : S' a = S' a)
    have hb := gr_bk g c1 (by unfold cil; rw [hu]; rfl) hab.symm
    exact a0 a b (ha.trans hb.symm) (by rw [ha]; exact hu)
  · intro l hl
    have hl := gr_bk g c1 rfl hl
    rw [(gr_cx g c2 (154, 1) (by decide) (L := 154) (j := 1) rfl (Or.inr rfl) hl (by decide)), (gr_cx g c2 (154, 2) (by decide) (L := 154) (j := 2) rfl (Or.inr rfl) hl (by decide))]
    rcases a1 l hl with q | ⟨q1, q2, q3⟩ | ⟨q1, q2, q3⟩ | ⟨q1, q2, q3⟩ | ⟨q1, q2, q3⟩ | ⟨q1, q2, q3⟩
    · exact Or.inl q
    · exact Or.inr (Or.inl (⟨gr_lab g q1 (by decide), q2, fun i h0 h1 => by rw [(gr_cx g c2 (160, -1) (by decide) (L := 160) rfl (Or.inl rfl) q1 (by decide))]; exact gr_lab g (q3 i h0 h1) (by decide)⟩))
    · exact Or.inr (Or.inr (Or.inl (⟨gr_lab g q1 (by decide), q2, fun i h0 h1 => by rw [(gr_cx g c2 (161, -1) (by decide) (L := 161) rfl (Or.inl rfl) q1 (by decide))]; exact gr_lab g (q3 i h0 h1) (by decide)⟩)))
    · exact Or.inr (Or.inr (Or.inr (Or.inl (⟨gr_lab g q1 (by decide), q2, fun i h0 h1 => by rw [(gr_cx g c2 (162, -1) (by decide) (L := 162) rfl (Or.inl rfl) q1 (by decide))]; exact gr_lab g (q3 i h0 h1) (by decide)⟩))))
    · exact Or.inr (Or.inr (Or.inr (Or.inr (Or.inl (⟨gr_lab g q1 (by decide), q2, fun i h0 h1 => by rw [(gr_cx g c2 (163, -1) (by decide) (L := 163) rfl (Or.inl rfl) q1 (by decide))]; exact gr_lab g (q3 i h0 h1) (by decide)⟩)))))
    · exact Or.inr (Or.inr (Or.inr (Or.inr (Or.inr (⟨gr_lab g q1 (by decide), q2, fun i h0 h1 => by rw [(gr_cx g c2 (164, -1) (by decide) (L := 164) rfl (Or.inl rfl) q1 (by decide))]; exact gr_lab g (q3 i h0 h1) (by decide)⟩)))))
  · intro l hl
    have hl := gr_bk g c1 rfl hl
    rw [(gr_cx g c2 (155, 1) (by decide) (L := 155) (j := 1) rfl (Or.inr rfl) hl (by decide)), (gr_cx g c2 (155, 2) (by decide) (L := 155) (j := 2) rfl (Or.inr rfl) hl (by decide))]
    rcases a2 l hl with q | ⟨q1, q2, q3⟩ | ⟨q1, q2, q3⟩ | ⟨q1, q2, q3⟩ | ⟨q1, q2, q3⟩ | ⟨q1, q2, q3⟩
    · exact Or.inl q
    · exact Or.inr (Or.inl (⟨gr_lab g q1 (by decide), q2, fun i h0 h1 => by rw [(gr_cx g c2 (165, -1) (by decide) (L := 165) rfl (Or.inl rfl) q1 (by decide))]; exact gr_lab g (q3 i h0 h1) (by decide)⟩))
    · exact Or.inr (Or.inr (Or.inl (⟨gr_lab g q1 (by decide), q2, fun i h0 h1 => by rw [(gr_cx g c2 (166, -1) (by decide) (L := 166) rfl (Or.inl rfl) q1 (by decide))]; exact gr_lab g (q3 i h0 h1) (by decide)⟩)))
    · exact Or.inr (Or.inr (Or.inr (Or.inl (⟨gr_lab g q1 (by decide), q2, fun i h0 h1 => by rw [(gr_cx g c2 (167, -1) (by decide) (L := 167) rfl (Or.inl rfl) q1 (by decide))]; exact gr_lab g (q3 i h0 h1) (by decide)⟩))))
    · exact Or.inr (Or.inr (Or.inr (Or.inr (Or.inl (⟨gr_lab g q1 (by decide), q2, fun i h0 h1 => by rw [(gr_cx g c2 (168, -1) (by decide) (L := 168) rfl (Or.inl rfl) q1 (by decide))]; exact gr_lab g (q3 i h0 h1) (by decide)⟩)))))
    · exact Or.inr (Or.inr (Or.inr (Or.inr (Or.inr (⟨gr_lab g q1 (by decide), q2, fun i h0 h1 => by rw [(gr_cx g c2 (169, -1) (by decide) (L := 169) rfl (Or.inl rfl) q1 (by decide))]; exact gr_lab g (q3 i h0 h1) (by decide)⟩)))))
  · intro l hl
    have hl := gr_bk g c1 rfl hl
    rw [(gr_cx g c2 (156, 1) (by decide) (L := 156) (j := 1) rfl (Or.inr rfl) hl (by decide)), (gr_cx g c2 (156, 2) (by decide) (L := 156) (j := 2) rfl (Or.inr rfl) hl (by decide))]
    rcases a3 l hl with q | ⟨q1, q2, q3⟩ | ⟨q1, q2, q3⟩ | ⟨q1, q2, q3⟩
    · exact Or.inl q
    · exact Or.inr (Or.inl (⟨gr_lab g q1 (by decide), q2, fun i h0 h1 => by rw [(gr_cx g c2 (170, -1) (by decide) (L := 170) rfl (Or.inl rfl) q1 (by decide))]; exact gr_lab g (q3 i h0 h1) (by decide)⟩))
    · exact Or.inr (Or.inr (Or.inl (⟨gr_lab g q1 (by decide), q2, fun i h0 h1 => by rw [(gr_cx g c2 (171, -1) (by decide) (L := 171) rfl (Or.inl rfl) q1 (by decide))]; exact gr_lab g (q3 i h0 h1) (by decide)⟩)))
    · exact Or.inr (Or.inr (Or.inr (⟨gr_lab g q1 (by decide), q2, fun i h0 h1 => by rw [(gr_cx g c2 (172, -1) (by decide) (L := 172) rfl (Or.inl rfl) q1 (by decide))]; exact gr_lab g (q3 i h0 h1) (by decide)⟩)))
  · intro l hl
    have hl := gr_bk g c1 rfl hl
    rw [a0 l a (hl.trans hS.symm) (by rw [hl]; rfl)]
    exact lb
  · intro l hl
    have hl := gr_bk g c1 rfl hl
    rw [(gr_cx g c2 (158, 1) (by decide) (L := 158) (j := 1) rfl (Or.inr rfl) hl (by decide)), (gr_cx g c2 (158, 2) (by decide) (L := 158) (j := 2) rfl (Or.inr rfl) hl (by decide))]
    rcases a5 l hl with q | ⟨q1, q2, q3⟩
    · exact Or.inl q
    · exact Or.inr (⟨gr_lab g q1 (by decide), q2, fun i h0 h1 => by rw [(gr_cx g c2 (179, -1) (by decide) (L := 179) rfl (Or.inl rfl) q1 (by decide))]; exact gr_lab g (q3 i h0 h1) (by decide)⟩)
  · intro l hl
    have hl := gr_bk g c1 rfl hl
    rw [(gr_cx g c2 (159, 1) (by decide) (L := 159) (j := 1) rfl (Or.inr rfl) hl (by decide)), (gr_cx g c2 (159, 2) (by decide) (L := 159) (j := 2) rfl (Or.inr rfl) hl (by decide))]
    rcases a6 l hl with q | ⟨q1, q2, q3⟩ | ⟨q1, q2, q3⟩ | ⟨q1, q2, q3⟩ | ⟨q1, q2, q3⟩ | ⟨q1, q2, q3⟩ | ⟨q1, q2, q3⟩
    · exact Or.inl q
    · exact Or.inr (Or.inl (⟨gr_lab g q1 (by decide), q2, fun i h0 h1 => by rw [(gr_cx g c2 (180, -1) (by decide) (L := 180) rfl (Or.inl rfl) q1 (by decide))]; exact gr_lab g (q3 i h0 h1) (by decide)⟩))
    · exact Or.inr (Or.inr (Or.inl (⟨gr_lab g q1 (by decide), q2, fun i h0 h1 => by rw [(gr_cx g c2 (181, -1) (by decide) (L := 181) rfl (Or.inl rfl) q1 (by decide))]; exact gr_lab g (q3 i h0 h1) (by decide)⟩)))
    · exact Or.inr (Or.inr (Or.inr (Or.inl (⟨gr_lab g q1 (by decide), q2, fun i h0 h1 => by rw [(gr_cx g c2 (182, -1) (by decide) (L := 182) rfl (Or.inl rfl) q1 (by decide))]; exact gr_lab g (q3 i h0 h1) (by decide)⟩))))
    · exact Or.inr (Or.inr (Or.inr (Or.inr (Or.inl (⟨gr_lab g q1 (by decide), q2, fun i h0 h1 => by rw [(gr_cx g c2 (183, -1) (by decide) (L := 183) rfl (Or.inl rfl) q1 (by decide))]; exact gr_lab g (q3 i h0 h1) (by decide)⟩)))))
    · exact Or.inr (Or.inr (Or.inr (Or.inr (Or.inr (Or.inl (⟨gr_lab g q1 (by decide), q2, fun i h0 h1 => by rw [(gr_cx g c2 (184, -1) (by decide) (L := 184) rfl (Or.inl rfl) q1 (by decide))]; exact gr_lab g (q3 i h0 h1) (by decide)⟩))))))
    · exact Or.inr (Or.inr (Or.inr (Or.inr (Or.inr (Or.inr (⟨gr_lab g q1 (by decide), q2, fun i h0 h1 => by rw [(gr_cx g c2 (185, -1) (by decide) (L := 185) rfl (Or.inl rfl) q1 (by decide))]; exact gr_lab g (q3 i h0 h1) (by decide)⟩))))))
  · intro t ht i h0 h1 hh
    have ht := gr_bk g c1 rfl ht
    rw [(gr_cx g c2 (136, 3) (by decide) (L := 136) (j := 3) rfl (Or.inr rfl) ht (by decide)), (gr_cx g c2 (120, -1) (by decide) (L := 120) rfl (Or.inl rfl) (tk t ht).1 (by decide))] at hh
    rw [(gr_cx g c2 (136, 5) (by decide) (L := 136) (j := 5) rfl (Or.inr rfl) ht (by decide)), (gr_cx g c2 (121, -1) (by decide) (L := 121) rfl (Or.inl rfl) (tk t ht).2 (by decide))]
    exact a7 t ht i h0 h1 hh
  · intro t u ht hu hh
    have ht := gr_bk g c1 rfl ht
    have hu := gr_bk g c1 rfl hu
    rw [(gr_cx g c2 (136, 3) (by decide) (L := 136) (j := 3) rfl (Or.inr rfl) ht (by decide)), (gr_cx g c2 (136, 3) (by decide) (L := 136) (j := 3) rfl (Or.inr rfl) hu (by decide)), (gr_cx g c2 (136, 5) (by decide) (L := 136) (j := 5) rfl (Or.inr rfl) ht (by decide)), (gr_cx g c2 (136, 5) (by decide) (L := 136) (j := 5) rfl (Or.inr rfl) hu (by decide))] at hh
    exact a8 t u ht hu hh
  · intro p l hp hl
    have hp := gr_bk g c1 rfl hp
    have hl := gr_bk g c1 rfl hl
    rw [(gr_cx g c2 (138, 2) (by decide) (L := 138) (j := 2) rfl (Or.inr rfl) hp (by decide)), (gr_cx g c2 (156, 2) (by decide) (L := 156) (j := 2) rfl (Or.inr rfl) hl (by decide))]
    exact a9 p l hp hl
def cif4 : List (Int × Int) := [(120, -1), (121, -1), (136, 3), (136, 5), (138, 2), (154, 1), (154, 2), (155, 1), (155, 2), (156, 1), (156, 2), (157, 1), (157, 2), (159, 1), (159, 2), (160, -1), (161, -1), (162, -1), (163, -1), (164, -1), (165, -1), (166, -1), (167, -1), (168, -1), (169, -1), (170, -1), (171, -1), (172, -1), (173, -1), (174, -1), (175, -1), (176, -1), (177, -1), (178, -1), (180, -1), (181, -1), (182, -1), (183, -1), (184, -1), (185, -1)]
theorem ci_ad4 (h : CI E S G) (tk : TKP S G) (g : Gr nl ws S G S' G') (c1 : nlk nl = true) (c2 : djx cif4 ws = true) (hS : S a = 158) (lb : LB4 E S' G' a) (hz : G 158 a 2 ≤ G' 158 a 2) : CI E S' G' := by
  obtain ⟨a0, a1, a2, a3, a4, a5, a6, a7, a8, a9⟩ := h
  refine ⟨?_, ?_, ?_, ?_, ?_, ?_, ?_, ?_, ?_, ?_⟩
  · intro a b hab hu
    have ha := gr_bk g c1 (by unfold cil; rw [hu]; rfl) (rfl : S' a = S' a)
    have hb := gr_bk g c1 (by unfold cil; rw [hu]; rfl) hab.symm
    exact a0 a b (ha.trans hb.symm) (by rw [ha]; exact hu)
  · intro l hl
    have hl := gr_bk g c1 rfl hl
    rw [(gr_cx g c2 (154, 1) (by decide) (L := 154) (j := 1) rfl (Or.inr rfl) hl (by decide)), (gr_cx g c2 (154, 2) (by decide) (L := 154) (j := 2) rfl (Or.inr rfl) hl (by decide))]
    rcases a1 l hl with q | ⟨q1, q2, q3⟩ | ⟨q1, q2, q3⟩ | ⟨q1, q2, q3⟩ | ⟨q1, q2, q3⟩ | ⟨q1, q2, q3⟩
    · exact Or.inl q
    · exact Or.inr (Or.inl (⟨gr_lab g q1 (by decide), q2, fun i h0 h1 => by rw [(gr_cx g c2 (160, -1) (by decide) (L := 160) rfl (Or.inl rfl) q1 (by decide))]; exact gr_lab g (q3 i h0 h1) (by decide)⟩))
    · exact Or.inr (Or.inr (Or.inl (⟨gr_lab g q1 (by decide), q2, fun i h0 h1 => by rw [(gr_cx g c2 (161, -1) (by decide) (L := 161) rfl (Or.inl rfl) q1 (by decide))]; exact gr_lab g (q3 i h0 h1) (by decide)⟩)))
    · exact Or.inr (Or.inr (Or.inr (Or.inl (⟨gr_lab g q1 (by decide), q2, fun i h0 h1 => by rw [(gr_cx g c2 (162, -1) (by decide) (L := 162) rfl (Or.inl rfl) q1 (by decide))]; exact gr_lab g (q3 i h0 h1) (by decide)⟩))))
    · exact Or.inr (Or.inr (Or.inr (Or.inr (Or.inl (⟨gr_lab g q1 (by decide), q2, fun i h0 h1 => by rw [(gr_cx g c2 (163, -1) (by decide) (L := 163) rfl (Or.inl rfl) q1 (by decide))]; exact gr_lab g (q3 i h0 h1) (by decide)⟩)))))
    · exact Or.inr (Or.inr (Or.inr (Or.inr (Or.inr (⟨gr_lab g q1 (by decide), q2, fun i h0 h1 => by rw [(gr_cx g c2 (164, -1) (by decide) (L := 164) rfl (Or.inl rfl) q1 (by decide))]; exact gr_lab g (q3 i h0 h1) (by decide)⟩)))))
  · intro l hl
    have hl := gr_bk g c1 rfl hl
    rw [(gr_cx g c2 (155, 1) (by decide) (L := 155) (j := 1) rfl (Or.inr rfl) hl (by decide)), (gr_cx g c2 (155, 2) (by decide) (L := 155) (j := 2) rfl (Or.inr rfl) hl (by decide))]
    rcases a2 l hl with q | ⟨q1, q2, q3⟩ | ⟨q1, q2, q3⟩ | ⟨q1, q2, q3⟩ | ⟨q1, q2, q3⟩ | ⟨q1, q2, q3⟩
    · exact Or.inl q
    · exact Or.inr (Or.inl (⟨gr_lab g q1 (by decide), q2, fun i h0 h1 => by rw [(gr_cx g c2 (165, -1) (by decide) (L := 165) rfl (Or.inl rfl) q1 (by decide))]; exact gr_lab g (q3 i h0 h1) (by decide)⟩))
    · exact Or.inr (Or.inr (Or.inl (⟨gr_lab g q1 (by decide), q2, fun i h0 h1 => by rw [(gr_cx g c2 (166, -1) (by decide) (L := 166) rfl (Or.inl rfl) q1 (by decide))]; exact gr_lab g (q3 i h0 h1) (by decide)⟩)))
    · exact Or.inr (Or.inr (Or.inr (Or.inl (⟨gr_lab g q1 (by decide), q2, fun i h0 h1 => by rw [(gr_cx g c2 (167, -1) (by decide) (L := 167) rfl (Or.inl rfl) q1 (by decide))]; exact gr_lab g (q3 i h0 h1) (by decide)⟩))))
    · exact Or.inr (Or.inr (Or.inr (Or.inr (Or.inl (⟨gr_lab g q1 (by decide), q2, fun i h0 h1 => by rw [(gr_cx g c2 (168, -1) (by decide) (L := 168) rfl (Or.inl rfl) q1 (by decide))]; exact gr_lab g (q3 i h0 h1) (by decide)⟩)))))
    · exact Or.inr (Or.inr (Or.inr (Or.inr (Or.inr (⟨gr_lab g q1 (by decide), q2, fun i h0 h1 => by rw [(gr_cx g c2 (169, -1) (by decide) (L := 169) rfl (Or.inl rfl) q1 (by decide))]; exact gr_lab g (q3 i h0 h1) (by decide)⟩)))))
  · intro l hl
    have hl := gr_bk g c1 rfl hl
    rw [(gr_cx g c2 (156, 1) (by decide) (L := 156) (j := 1) rfl (Or.inr rfl) hl (by decide)), (gr_cx g c2 (156, 2) (by decide) (L := 156) (j := 2) rfl (Or.inr rfl) hl (by decide))]
    rcases a3 l hl with q | ⟨q1, q2, q3⟩ | ⟨q1, q2, q3⟩ | ⟨q1, q2, q3⟩
    · exact Or.inl q
    · exact Or.inr (Or.inl (⟨gr_lab g q1 (by decide), q2, fun i h0 h1 => by rw [(gr_cx g c2 (170, -1) (by decide) (L := 170) rfl (Or.inl rfl) q1 (by decide))]; exact gr_lab g (q3 i h0 h1) (by decide)⟩))
    · exact Or.inr (Or.inr (Or.inl (⟨gr_lab g q1 (by decide), q2, fun i h0 h1 => by rw [(gr_cx g c2 (171, -1) (by decide) (L := 171) rfl (Or.inl rfl) q1 (by decide))]; exact gr_lab g (q3 i h0 h1) (by decide)⟩)))
    · exact Or.inr (Or.inr (Or.inr (⟨gr_lab g q1 (by decide), q2, fun i h0 h1 => by rw [(gr_cx g c2 (172, -1) (by decide) (L := 172) rfl (Or.inl rfl) q1 (by decide))]; exact gr_lab g (q3 i h0 h1) (by decide)⟩)))
  · intro l hl
    have hl := gr_bk g c1 rfl hl
    rw [(gr_cx g c2 (157, 1) (by decide) (L := 157) (j := 1) rfl (Or.inr rfl) hl (by decide)), (gr_cx g c2 (157, 2) (by decide) (L := 157) (j := 2) rfl (Or.inr rfl) hl (by decide))]
    rcases a4 l hl with q | ⟨q1, q2, q3⟩ | ⟨q1, q2, q3⟩ | ⟨q1, q2, q3⟩ | ⟨q1, q2, q3⟩ | ⟨q1, q2, q3⟩ | ⟨q1, q2, q3⟩
    · exact Or.inl q
    · exact Or.inr (Or.inl (⟨gr_lab g q1 (by decide), q2, fun i h0 h1 => by rw [(gr_cx g c2 (173, -1) (by decide) (L := 173) rfl (Or.inl rfl) q1 (by decide))]; exact gr_lab g (q3 i h0 h1) (by decide)⟩))
    · exact Or.inr (Or.inr (Or.inl (⟨gr_lab g q1 (by decide), q2, fun i h0 h1 => by rw [(gr_cx g c2 (174, -1) (by decide) (L := 174) rfl (Or.inl rfl) q1 (by decide))]; exact gr_lab g (q3 i h0 h1) (by decide)⟩)))
    · exact Or.inr (Or.inr (Or.inr (Or.inl (⟨gr_lab g q1 (by decide), q2, fun i h0 h1 => by rw [(gr_cx g c2 (175, -1) (by decide) (L := 175) rfl (Or.inl rfl) q1 (by decide))]; exact gr_lab g (q3 i h0 h1) (by decide)⟩))))
    · exact Or.inr (Or.inr (Or.inr (Or.inr (Or.inl (⟨gr_lab g q1 (by decide), q2, fun i h0 h1 => by rw [(gr_cx g c2 (176, -1) (by decide) (L := 176) rfl (Or.inl rfl) q1 (by decide))]; exact gr_lab g (q3 i h0 h1) (by decide)⟩)))))
    · exact Or.inr (Or.inr (Or.inr (Or.inr (Or.inr (Or.inl (⟨gr_lab g q1 (by decide), q2, fun i h0 h1 => by rw [(gr_cx g c2 (177, -1) (by decide) (L := 177) rfl (Or.inl rfl) q1 (by decide))]; exact gr_lab g (q3 i h0 h1) (by decide)⟩))))))
    · exact Or.inr (Or.inr (Or.inr (Or.inr (Or.inr (Or.inr (⟨gr_lab g q1 (by decide), q2, fun i h0 h1 => by rw [(gr_cx g c2 (178, -1) (by decide) (L := 178) rfl (Or.inl rfl) q1 (by decide))]; exact gr_lab g (q3 i h0 h1) (by decide)⟩))))))
  · intro l hl
    have hl := gr_bk g c1 rfl hl
    rw [a0 l a (hl.trans hS.symm) (by rw [hl]; rfl)]
    exact lb
  · intro l hl
    have hl := gr_bk g c1 rfl hl
    rw [(gr_cx g c2 (159, 1) (by decide) (L := 159) (j := 1) rfl (Or.inr rfl) hl (by decide)), (gr_cx g c2 (159, 2) (by decide) (L := 159) (j := 2) rfl (Or.inr rfl) hl (by decide))]
    rcases a6 l hl with q | ⟨q1, q2, q3⟩ | ⟨q1, q2, q3⟩ | ⟨q1, q2, q3⟩ | ⟨q1, q2, q3⟩ | ⟨q1, q2, q3⟩ | ⟨q1, q2, q3⟩
    · exact Or.inl q
    · exact Or.inr (Or.inl (⟨gr_lab g q1 (by decide), q2, fun i h0 h1 => by rw [(gr_cx g c2 (180, -1) (by decide) (L := 180) rfl (Or.inl rfl) q1 (by decide))]; exact gr_lab g (q3 i h0 h1) (by decide)⟩))
    · exact Or.inr (Or.inr (Or.inl (⟨gr_lab g q1 (by decide), q2, fun i h0 h1 => by rw [(gr_cx g c2 (181, -1) (by decide) (L := 181) rfl (Or.inl rfl) q1 (by decide))]; exact gr_lab g (q3 i h0 h1) (by decide)⟩)))
    · exact Or.inr (Or.inr (Or.inr (Or.inl (⟨gr_lab g q1 (by decide), q2, fun i h0 h1 => by rw [(gr_cx g c2 (182, -1) (by decide) (L := 182) rfl (Or.inl rfl) q1 (by decide))]; exact gr_lab g (q3 i h0 h1) (by decide)⟩))))
    · exact Or.inr (Or.inr (Or.inr (Or.inr (Or.inl (⟨gr_lab g q1 (by decide), q2, fun i h0 h1 => by rw [(gr_cx g c2 (183, -1) (by decide) (L := 183) rfl (Or.inl rfl) q1 (by decide))]; exact gr_lab g (q3 i h0 h1) (by decide)⟩)))))
    · exact Or.inr (Or.inr (Or.inr (Or.inr (Or.inr (Or.inl (⟨gr_lab g q1 (by decide), q2, fun i h0 h1 => by rw [(gr_cx g c2 (184, -1) (by decide) (L := 184) rfl (Or.inl rfl) q1 (by decide))]; exact gr_lab g (q3 i h0 h1) (by decide)⟩))))))
    · exact Or.inr (Or.inr (Or.inr (Or.inr (Or.inr (Or.inr (⟨gr_lab g q1 (by decide), q2, fun i h0 h1 => by rw [(gr_cx g c2 (185, -1) (by decide) (L := 185) rfl (Or.inl rfl) q1 (by decide))]; exact gr_lab g (q3 i h0 h1) (by decide)⟩))))))
  · intro t ht i h0 h1 hh
    have ht := gr_bk g c1 rfl ht
    rw [(gr_cx g c2 (136, 3) (by decide) (L := 136) (j := 3) rfl (Or.inr rfl) ht (by decide)), (gr_cx g c2 (120, -1) (by decide) (L := 120) rfl (Or.inl rfl) (tk t ht).1 (by decide))] at hh
    rw [(gr_cx g c2 (136, 5) (by decide) (L := 136) (j := 5) rfl (Or.inr rfl) ht (by decide)), (gr_cx g c2 (121, -1) (by decide) (L := 121) rfl (Or.inl rfl) (tk t ht).2 (by decide))]
    exact a7 t ht i h0 h1 hh
  · intro t u ht hu hh
    have ht := gr_bk g c1 rfl ht
    have hu := gr_bk g c1 rfl hu
    rw [(gr_cx g c2 (136, 3) (by decide) (L := 136) (j := 3) rfl (Or.inr rfl) ht (by decide)), (gr_cx g c2 (136, 3) (by decide) (L := 136) (j := 3) rfl (Or.inr rfl) hu (by decide)), (gr_cx g c2 (136, 5) (by decide) (L := 136) (j := 5) rfl (Or.inr rfl) ht (by decide)), (gr_cx g c2 (136, 5) (by decide) (L := 136) (j := 5) rfl (Or.inr rfl) hu (by decide))] at hh
    exact a8 t u ht hu hh
  · intro p l hp hl
    have hp := gr_bk g c1 rfl hp
    have hl := gr_bk g c1 rfl hl
    rw [(gr_cx g c2 (138, 2) (by decide) (L := 138) (j := 2) rfl (Or.inr rfl) hp (by decide)), (gr_cx g c2 (156, 2) (by decide) (L := 156) (j := 2) rfl (Or.inr rfl) hl (by decide))]
    exact a9 p l hp hl
def cif5 : List (Int × Int) := [(120, -1), (121, -1), (136, 3), (136, 5), (138, 2), (154, 1), (154, 2), (155, 1), (155, 2), (156, 1), (156, 2), (157, 1), (157, 2), (158, 1), (158, 2), (160, -1), (161, -1), (162, -1), (163, -1), (164, -1), (165, -1), (166, -1), (167, -1), (168, -1), (169, -1), (170, -1), (171, -1), (172, -1), (173, -1), (174, -1), (175, -1), (176, -1), (177, -1), (178, -1), (179, -1)]
theorem ci_ad5 (h : CI E S G) (tk : TKP S G) (g : Gr nl ws S G S' G') (c1 : nlk nl = true) (c2 : djx cif5 ws = true) (hS : S a = 159) (lb : LB5 E S' G' a) (hz : G 159 a 2 ≤ G' 159 a 2) : CI E S' G' := by
  obtain ⟨a0, a1, a2, a3, a4, a5, a6, a7, a8, a9⟩ := h
  refine ⟨?_, ?_, ?_, ?_, ?_, ?_, ?_, ?_, ?_, ?_⟩
  · intro a b hab hu
    have ha := gr_bk g c1 (by unfold cil; rw [hu]; rfl) (rfl : S' a = S' a)
    have hb := gr_bk g c1 (by unfold cil; rw [hu]; rfl) hab.symm
    exact a0 a b (ha.trans hb.symm) (by rw [ha]; exact hu)
  · intro l hl
    have hl := gr_bk g c1 rfl hl
    rw [(gr_cx g c2 (154, 1) (by decide) (L := 154) (j := 1) rfl (Or.inr rfl) hl (by decide)), (gr_cx g c2 (154, 2) (by decide) (L := 154) (j := 2) rfl (Or.inr rfl) hl (by decide))]
    rcases a1 l hl with q | ⟨q1, q2, q3⟩ | ⟨q1, q2, q3⟩ | ⟨q1, q2, q3⟩ | ⟨q1, q2, q3⟩ | ⟨q1, q2, q3⟩
    · exact Or.inl q
    · exact Or.inr (Or.inl (⟨gr_lab g q1 (by decide), q2, fun i h0 h1 => by rw [(gr_cx g c2 (160, -1) (by decide) (L := 160) rfl (Or.inl rfl) q1 (by decide))]; exact gr_lab g (q3 i h0 h1) (by decide)⟩))
    · exact Or.inr (Or.inr (Or.inl (⟨gr_lab g q1 (by decide), q2, fun i h0 h1 => by rw [(gr_cx g c2 (161, -1) (by decide) (L := 161) rfl (Or.inl rfl) q1 (by decide))]; exact gr_lab g (q3 i h0 h1) (by decide)⟩)))
    · exact Or.inr (Or.inr (Or.inr (Or.inl (⟨gr_lab g q1 (by decide), q2, fun i h0 h1 => by rw [(gr_cx g c2 (162, -1) (by decide) (L := 162) rfl (Or.inl rfl) q1 (by decide))]; exact gr_lab g (q3 i h0 h1) (by decide)⟩))))
    · exact Or.inr (Or.inr (Or.inr (Or.inr (Or.inl (⟨gr_lab g q1 (by decide), q2, fun i h0 h1 => by rw [(gr_cx g c2 (163, -1) (by decide) (L := 163) rfl (Or.inl rfl) q1 (by decide))]; exact gr_lab g (q3 i h0 h1) (by decide)⟩)))))
    · exact Or.inr (Or.inr (Or.inr (Or.inr (Or.inr (⟨gr_lab g q1 (by decide), q2, fun i h0 h1 => by rw [(gr_cx g c2 (164, -1) (by decide) (L := 164) rfl (Or.inl rfl) q1 (by decide))]; exact gr_lab g (q3 i h0 h1) (by decide)⟩)))))
  · intro l hl
    have hl := gr_bk g c1 rfl hl
    rw [(gr_cx g c2 (155, 1) (by decide) (L := 155) (j := 1) rfl (Or.inr rfl) hl (by decide)), (gr_cx g c2 (155, 2) (by decide) (L := 155) (j := 2) rfl (Or.inr rfl) hl (by decide))]
    rcases a2 l hl with q | ⟨q1, q2, q3⟩ | ⟨q1, q2, q3⟩ | ⟨q1, q2, q3⟩ | ⟨q1, q2, q3⟩ | ⟨q1, q2, q3⟩
    · exact Or.inl q
    · exact Or.inr (Or.inl (⟨gr_lab g q1 (by decide), q2, fun i h0 h1 => by rw [(gr_cx g c2 (165, -1) (by decide) (L := 165) rfl (Or.inl rfl) q1 (by decide))]; exact gr_lab g (q3 i h0 h1) (by decide)⟩))
    · exact Or.inr (Or.inr (Or.inl (⟨gr_lab g q1 (by decide), q2, fun i h0 h1 => by rw [(gr_cx g c2 (166, -1) (by decide) (L := 166) rfl (Or.inl rfl) q1 (by decide))]; exact gr_lab g (q3 i h0 h1) (by decide)⟩)))
    · exact Or.inr (Or.inr (Or.inr (Or.inl (⟨gr_lab g q1 (by decide), q2, fun i h0 h1 => by rw [(gr_cx g c2 (167, -1) (by decide) (L := 167) rfl (Or.inl rfl) q1 (by decide))]; exact gr_lab g (q3 i h0 h1) (by decide)⟩))))
    · exact Or.inr (Or.inr (Or.inr (Or.inr (Or.inl (⟨gr_lab g q1 (by decide), q2, fun i h0 h1 => by rw [(gr_cx g c2 (168, -1) (by decide) (L := 168) rfl (Or.inl rfl) q1 (by decide))]; exact gr_lab g (q3 i h0 h1) (by decide)⟩)))))
    · exact Or.inr (Or.inr (Or.inr (Or.inr (Or.inr (⟨gr_lab g q1 (by decide), q2, fun i h0 h1 => by rw [(gr_cx g c2 (169, -1) (by decide) (L := 169) rfl (Or.inl rfl) q1 (by decide))]; exact gr_lab g (q3 i h0 h1) (by decide)⟩)))))
  · intro l hl
    have hl := gr_bk g c1 rfl hl
    rw [(gr_cx g c2 (156, 1) (by decide) (L := 156) (j := 1) rfl (Or.inr rfl) hl (by decide)), (gr_cx g c2 (156, 2) (by decide) (L := 156) (j := 2) rfl (Or.inr rfl) hl (by decide))]
    rcases a3 l hl with q | ⟨q1, q2, q3⟩ | ⟨q1, q2, q3⟩ | ⟨q1, q2, q3⟩
    · exact Or.inl q
    · exact Or.inr (Or.inl (⟨gr_lab g q1 (by decide), q2, fun i h0 h1 => by rw [(gr_cx g c2 (170, -1) (by decide) (L := 170) rfl (Or.inl rfl) q1 (by decide))]; exact gr_lab g (q3 i h0 h1) (by decide)⟩))
    · exact Or.inr (Or.inr (Or.inl (⟨gr_lab g q1 (by decide), q2, fun i h0 h1 => by rw [(gr_cx g c2 (171, -1) (by decide) (L := 171) rfl (Or.inl rfl) q1 (by decide))]; exact gr_lab g (q3 i h0 h1) (by decide)⟩)))
    · exact Or.inr (Or.inr (Or.inr (⟨gr_lab g q1 (by decide), q2, fun i h0 h1 => by rw [(gr_cx g c2 (172, -1) (by decide) (L := 172) rfl (Or.inl rfl) q1 (by decide))]; exact gr_lab g (q3 i h0 h1) (by decide)⟩)))
  · intro l hl
    have hl := gr_bk g c1 rfl hl
    rw [(gr_cx g c2 (157, 1) (by decide) (L := 157) (j := 1) rfl (Or.inr rfl) hl (by decide)), (gr_cx g c2 (157, 2) (by decide) (L := 157) (j := 2) rfl (Or.inr rfl) hl (by decide))]
    rcases a4 l hl with q | ⟨q1, q2, q3⟩ | ⟨q1, q2, q3⟩ | ⟨q1, q2, q3⟩ | ⟨q1, q2, q3⟩ | ⟨q1, q2, q3⟩ | ⟨q1, q2, q3⟩
    · exact Or.inl q
    · exact Or.inr (Or.inl (⟨gr_lab g q1 (by decide), q2, fun i h0 h1 => by rw [(gr_cx g c2 (173, -1) (by decide) (L := 173) rfl (Or.inl rfl) q1 (by decide))]; exact gr_lab g (q3 i h0 h1) (by decide)⟩))
    · exact Or.inr (Or.inr (Or.inl (⟨gr_lab g q1 (by decide), q2, fun i h0 h1 => by rw [(gr_cx g c2 (174, -1) (by decide) (L := 174) rfl (Or.inl rfl) q1 (by decide))]; exact gr_lab g (q3 i h0 h1) (by decide)⟩)))
    · exact Or.inr (Or.inr (Or.inr (Or.inl (⟨gr_lab g q1 (by decide), q2, fun i h0 h1 => by rw [(gr_cx g c2 (175, -1) (by decide) (L := 175) rfl (Or.inl rfl) q1 (by decide))]; exact gr_lab g (q3 i h0 h1) (by decide)⟩))))
    · exact Or.inr (Or.inr (Or.inr (Or.inr (Or.inl (⟨gr_lab g q1 (by decide), q2, fun i h0 h1 => by rw [(gr_cx g c2 (176, -1) (by decide) (L := 176) rfl (Or.inl rfl) q1 (by decide))]; exact gr_lab g (q3 i h0 h1) (by decide)⟩)))))
    · exact Or.inr (Or.inr (Or.inr (Or.inr (Or.inr (Or.inl (⟨gr_lab g q1 (by decide), q2, fun i h0 h1 => by rw [(gr_cx g c2 (177, -1) (by decide) (L := 177) rfl (Or.inl rfl) q1 (by decide))]; exact gr_lab g (q3 i h0 h1) (by decide)⟩))))))
    · exact Or.inr (Or.inr (Or.inr (Or.inr (Or.inr (Or.inr (⟨gr_lab g q1 (by decide), q2, fun i h0 h1 => by rw [(gr_cx g c2 (178, -1) (by decide) (L := 178) rfl (Or.inl rfl) q1 (by decide))]; exact gr_lab g (q3 i h0 h1) (by decide)⟩))))))
  · intro l hl
    have hl := gr_bk g c1 rfl hl
    rw [(gr_cx g c2 (158, 1) (by decide) (L := 158) (j := 1) rfl (Or.inr rfl) hl (by decide)), (gr_cx g c2 (158, 2) (by decide) (L := 158) (j := 2) rfl (Or.inr rfl) hl (by decide))]
    rcases a5 l hl with q | ⟨q1, q2, q3⟩
    · exact Or.inl q
    · exact Or.inr (⟨gr_lab g q1 (by decide), q2, fun i h0 h1 => by rw [(gr_cx g c2 (179, -1) (by decide) (L := 179) rfl (Or.inl rfl) q1 (by decide))]; exact gr_lab g (q3 i h0 h1) (by decide)⟩)
  · intro l hl
    have hl := gr_bk g c1 rfl hl
    rw [a0 l a (hl.trans hS.symm) (by rw [hl]; rfl)]
    exact lb
  · intro t ht i h0 h1 hh
    have ht := gr_bk g c1 rfl ht
    rw [(gr_cx g c2 (136, 3) (by decide) (L := 136) (j := 3) rfl (Or.inr rfl) ht (by decide)), (gr_cx g c2 (120, -1) (by decide) (L := 120) rfl (Or.inl rfl) (tk t ht).1 (by decide))] at hh
    rw [(gr_cx g c2 (136, 5) (by decide) (L := 136) (j := 5) rfl (Or.inr rfl) ht (by decide)), (gr_cx g c2 (121, -1) (by decide) (L := 121) rfl (Or.inl rfl) (tk t ht).2 (by decide))]
    exact a7 t ht i h0 h1 hh
  · intro t u ht hu hh
    have ht := gr_bk g c1 rfl ht
    have hu := gr_bk g c1 rfl hu
    rw [(gr_cx g c2 (136, 3) (by decide) (L := 136) (j := 3) rfl (Or.inr rfl) ht (by decide)), (gr_cx g c2 (136, 3) (by decide) (L := 136) (j := 3) rfl (Or.inr rfl) hu (by decide)), (gr_cx g c2 (136, 5) (by decide) (L := 136) (j := 5) rfl (Or.inr rfl) ht (by decide)), (gr_cx g c2 (136, 5) (by decide) (L := 136) (j := 5) rfl (Or.inr rfl) hu (by decide))] at hh
    exact a8 t u ht hu hh
  · intro p l hp hl
    have hp := gr_bk g c1 rfl hp
    have hl := gr_bk g c1 rfl hl
    rw [(gr_cx g c2 (138, 2) (by decide) (L := 138) (j := 2) rfl (Or.inr rfl) hp (by decide)), (gr_cx g c2 (156, 2) (by decide) (L := 156) (j := 2) rfl (Or.inr rfl) hl (by decide))]
    exact a9 p l hp hl
end CIA
theorem fu_154 : FlU RJx4a65c 63 154 0 (0, (-2147483648), 2147483647) := ⟨0, 3, fs_154, RJx4a65c, TJx4a65c, "java/util/ArrayList", rfl, rfl, by decide, rfl, by decide, rfl, cf_Jx4a65c, (tbg sg1 142 rfl rfl), (tbg sg1 143 rfl rfl), rfl, by decide +kernel⟩
theorem co_Jx4a65c_add_72be8 : Co mJx4a65c_add_72be8 3 := ⟨(tbg sg3 76 rfl rfl), (tbg sg1 6 rfl rfl), by decide, by decide, by decide +kernel, by decide⟩
theorem cv_Jx4a65c_131_154 : Cv RJx4a65c 131 mJx4a65c_add_72be8 154 3 := ⟨co_Jx4a65c_add_72be8, (tbg sg3 73 rfl rfl), (tbg sg3 75 rfl rfl), 0, 3, fs_154, RJx4a65c, TJx4a65c, rfl, by decide, rfl, (tbm 2 (by decide +kernel) rfl)⟩
theorem fu_155 : FlU RJx4a65c 63 155 0 (0, (-2147483648), 2147483647) := ⟨0, 3, fs_155, RJx4a65c, TJx4a65c, "java/util/ArrayList", rfl, rfl, by decide, rfl, by decide, rfl, cf_Jx4a65c, (tbg sg1 142 rfl rfl), (tbg sg1 143 rfl rfl), rfl, by decide +kernel⟩
theorem cv_Jx4a65c_131_155 : Cv RJx4a65c 131 mJx4a65c_add_72be8 155 3 := ⟨co_Jx4a65c_add_72be8, (tbg sg3 73 rfl rfl), (tbg sg3 75 rfl rfl), 0, 3, fs_155, RJx4a65c, TJx4a65c, rfl, by decide, rfl, (tbm 2 (by decide +kernel) rfl)⟩
theorem fu_156 : FlU RJx4a65c 63 156 0 (0, (-2147483648), 2147483647) := ⟨0, 3, fs_156, RJx4a65c, TJx4a65c, "java/util/ArrayList", rfl, rfl, by decide, rfl, by decide, rfl, cf_Jx4a65c, (tbg sg1 142 rfl rfl), (tbg sg1 143 rfl rfl), rfl, by decide +kernel⟩
theorem cv_Jx4a65c_131_156 : Cv RJx4a65c 131 mJx4a65c_add_72be8 156 3 := ⟨co_Jx4a65c_add_72be8, (tbg sg3 73 rfl rfl), (tbg sg3 75 rfl rfl), 0, 3, fs_156, RJx4a65c, TJx4a65c, rfl, by decide, rfl, (tbm 2 (by decide +kernel) rfl)⟩
theorem fu_157 : FlU RJx4a65c 63 157 0 (0, (-2147483648), 2147483647) := ⟨0, 3, fs_157, RJx4a65c, TJx4a65c, "java/util/ArrayList", rfl, rfl, by decide, rfl, by decide, rfl, cf_Jx4a65c, (tbg sg1 142 rfl rfl), (tbg sg1 143 rfl rfl), rfl, by decide +kernel⟩
theorem cv_Jx4a65c_131_157 : Cv RJx4a65c 131 mJx4a65c_add_72be8 157 3 := ⟨co_Jx4a65c_add_72be8, (tbg sg3 73 rfl rfl), (tbg sg3 75 rfl rfl), 0, 3, fs_157, RJx4a65c, TJx4a65c, rfl, by decide, rfl, (tbm 2 (by decide +kernel) rfl)⟩
theorem fu_158 : FlU RJx4a65c 63 158 0 (0, (-2147483648), 2147483647) := ⟨0, 3, fs_158, RJx4a65c, TJx4a65c, "java/util/ArrayList", rfl, rfl, by decide, rfl, by decide, rfl, cf_Jx4a65c, (tbg sg1 142 rfl rfl), (tbg sg1 143 rfl rfl), rfl, by decide +kernel⟩
theorem cv_Jx4a65c_131_158 : Cv RJx4a65c 131 mJx4a65c_add_72be8 158 3 := ⟨co_Jx4a65c_add_72be8, (tbg sg3 73 rfl rfl), (tbg sg3 75 rfl rfl), 0, 3, fs_158, RJx4a65c, TJx4a65c, rfl, by decide, rfl, (tbm 2 (by decide +kernel) rfl)⟩
theorem fu_159 : FlU RJx4a65c 63 159 0 (0, (-2147483648), 2147483647) := ⟨0, 3, fs_159, RJx4a65c, TJx4a65c, "java/util/ArrayList", rfl, rfl, by decide, rfl, by decide, rfl, cf_Jx4a65c, (tbg sg1 142 rfl rfl), (tbg sg1 143 rfl rfl), rfl, by decide +kernel⟩
theorem cv_Jx4a65c_131_159 : Cv RJx4a65c 131 mJx4a65c_add_72be8 159 3 := ⟨co_Jx4a65c_add_72be8, (tbg sg3 73 rfl rfl), (tbg sg3 75 rfl rfl), 0, 3, fs_159, RJx4a65c, TJx4a65c, rfl, by decide, rfl, (tbm 2 (by decide +kernel) rfl)⟩
