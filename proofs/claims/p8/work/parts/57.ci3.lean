def cil (L : Int) : Bool := uql L || L == 136 || L == 138
def nlk (nl : List Int) : Bool := nl.all (fun L => !cil L)
theorem cil_ne {L : Int} (h : cil L = true) : L ≠ 0 := fun e => by rw [e] at h; cases h
def TKP (S : Sg) (G : Gh) : Prop := ∀ t : Int, S t = 136 → S (G 136 t 3) = 120 ∧ S (G 136 t 5) = 121
section RUT
variable {E : En} {M : Mk} {as : List Vl} {d mc ms : Nat} {Y : Option Vl → Sg → Gh → Prop} {X : Xp} {cs ss : Nat} {S : Sg} {G : Gh} {pc : Nat} {st : List Vl} {lo : Lo}
theorem r_tk (hX : Cl E M as d mc ms Y X) (k : TKP S G → X cs ss pc st lo S G) : X cs ss pc st lo S G := by
  obtain ⟨p, e, z, m, below, meth, c, hx, hb, hr, hml, hown, hlk, hnm, hts, hK, rfl⟩ := hX
  intro H locs ls hR hz hL' hl
  refine k (fun t ht => ?_) H locs ls hR hz hL' hl
  have h := (hR.2.2 t (by rw [ht]; decide)).2.2
  rw [ht] at h
  obtain ⟨-, h2⟩ := h
  exact ⟨(h2 3 (by decide)).1, (h2 5 (by decide)).1⟩
end RUT
section CIG
variable {E : En} {S S' : Sg} {G G' : Gh} {nl : List Int} {ws : List (Int × Int)}
theorem gr_bk (g : Gr nl ws S G S' G') (c1 : nlk nl = true) {x L : Int} (hc : cil L = true) (hx : S' x = L) : S x = L := by
  refine gr_back g hx (cil_ne hc) ?_
  cases e : nl.contains L with
  | false => rfl
  | true =>
    exfalso
    have := List.all_eq_true.mp c1 L (by simpa using e)
    rw [hc] at this
    cases this
theorem gr_ci (g : Gr nl ws S G S' G') (c2 : djn ws = true) {x L j : Int} (q : Int × Int) (hq : q ∈ cif) (e : q.1 = L) (hj : q.2 = -1 ∨ q.2 = j) (hx : S x = L) (hL : L ≠ 0) : G' L x j = G L x j := gr_at g hx hL (by subst e; exact djn_out c2 hq hj)
theorem ci_gr (h : CI E S G) (tk : TKP S G) (g : Gr nl ws S G S' G') (c1 : nlk nl = true) (c2 : djn ws = true) : CI E S' G' := by
  obtain ⟨a0, a1, a2, a3, a4, a5, a6, a7, a8, a9⟩ := h
  refine ⟨?_, ?_, ?_, ?_, ?_, ?_, ?_, ?_, ?_, ?_⟩
  · intro a b hab hu
    have ha := gr_bk g c1 (by unfold cil; rw [hu]; rfl) (rfl : S' a = S' a)
    have hb := gr_bk g c1 (by unfold cil; rw [hu]; rfl) hab.symm
    exact a0 a b (ha.trans hb.symm) (by rw [ha]; exact hu)
  · intro l hl
    have hl := gr_bk g c1 rfl hl
    rw [(gr_ci g c2 (154, 1) (by decide) (L := 154) (j := 1) rfl (Or.inr rfl) hl (by decide)), (gr_ci g c2 (154, 2) (by decide) (L := 154) (j := 2) rfl (Or.inr rfl) hl (by decide))]
    rcases a1 l hl with q | ⟨q1, q2, q3⟩ | ⟨q1, q2, q3⟩ | ⟨q1, q2, q3⟩ | ⟨q1, q2, q3⟩ | ⟨q1, q2, q3⟩
    · exact Or.inl q
    · exact Or.inr (Or.inl (⟨gr_lab g q1 (by decide), q2, fun i h0 h1 => by rw [(gr_ci g c2 (160, -1) (by decide) (L := 160) rfl (Or.inl rfl) q1 (by decide))]; exact gr_lab g (q3 i h0 h1) (by decide)⟩))
    · exact Or.inr (Or.inr (Or.inl (⟨gr_lab g q1 (by decide), q2, fun i h0 h1 => by rw [(gr_ci g c2 (161, -1) (by decide) (L := 161) rfl (Or.inl rfl) q1 (by decide))]; exact gr_lab g (q3 i h0 h1) (by decide)⟩)))
    · exact Or.inr (Or.inr (Or.inr (Or.inl (⟨gr_lab g q1 (by decide), q2, fun i h0 h1 => by rw [(gr_ci g c2 (162, -1) (by decide) (L := 162) rfl (Or.inl rfl) q1 (by decide))]; exact gr_lab g (q3 i h0 h1) (by decide)⟩))))
    · exact Or.inr (Or.inr (Or.inr (Or.inr (Or.inl (⟨gr_lab g q1 (by decide), q2, fun i h0 h1 => by rw [(gr_ci g c2 (163, -1) (by decide) (L := 163) rfl (Or.inl rfl) q1 (by decide))]; exact gr_lab g (q3 i h0 h1) (by decide)⟩)))))
    · exact Or.inr (Or.inr (Or.inr (Or.inr (Or.inr (⟨gr_lab g q1 (by decide), q2, fun i h0 h1 => by rw [(gr_ci g c2 (164, -1) (by decide) (L := 164) rfl (Or.inl rfl) q1 (by decide))]; exact gr_lab g (q3 i h0 h1) (by decide)⟩)))))
  · intro l hl
    have hl := gr_bk g c1 rfl hl
    rw [(gr_ci g c2 (155, 1) (by decide) (L := 155) (j := 1) rfl (Or.inr rfl) hl (by decide)), (gr_ci g c2 (155, 2) (by decide) (L := 155) (j := 2) rfl (Or.inr rfl) hl (by decide))]
    rcases a2 l hl with q | ⟨q1, q2, q3⟩ | ⟨q1, q2, q3⟩ | ⟨q1, q2, q3⟩ | ⟨q1, q2, q3⟩ | ⟨q1, q2, q3⟩
    · exact Or.inl q
    · exact Or.inr (Or.inl (⟨gr_lab g q1 (by decide), q2, fun i h0 h1 => by rw [(gr_ci g c2 (165, -1) (by decide) (L := 165) rfl (Or.inl rfl) q1 (by decide))]; exact gr_lab g (q3 i h0 h1) (by decide)⟩))
    · exact Or.inr (Or.inr (Or.inl (⟨gr_lab g q1 (by decide), q2, fun i h0 h1 => by rw [(gr_ci g c2 (166, -1) (by decide) (L := 166) rfl (Or.inl rfl) q1 (by decide))]; exact gr_lab g (q3 i h0 h1) (by decide)⟩)))
    · exact Or.inr (Or.inr (Or.inr (Or.inl (⟨gr_lab g q1 (by decide), q2, fun i h0 h1 => by rw [(gr_ci g c2 (167, -1) (by decide) (L := 167) rfl (Or.inl rfl) q1 (by decide))]; exact gr_lab g (q3 i h0 h1) (by decide)⟩))))
    · exact Or.inr (Or.inr (Or.inr (Or.inr (Or.inl (⟨gr_lab g q1 (by decide), q2, fun i h0 h1 => by rw [(gr_ci g c2 (168, -1) (by decide) (L := 168) rfl (Or.inl rfl) q1 (by decide))]; exact gr_lab g (q3 i h0 h1) (by decide)⟩)))))
    · exact Or.inr (Or.inr (Or.inr (Or.inr (Or.inr (⟨gr_lab g q1 (by decide), q2, fun i h0 h1 => by rw [(gr_ci g c2 (169, -1) (by decide) (L := 169) rfl (Or.inl rfl) q1 (by decide))]; exact gr_lab g (q3 i h0 h1) (by decide)⟩)))))
  · intro l hl
    have hl := gr_bk g c1 rfl hl
    rw [(gr_ci g c2 (156, 1) (by decide) (L := 156) (j := 1) rfl (Or.inr rfl) hl (by decide)), (gr_ci g c2 (156, 2) (by decide) (L := 156) (j := 2) rfl (Or.inr rfl) hl (by decide))]
    rcases a3 l hl with q | ⟨q1, q2, q3⟩ | ⟨q1, q2, q3⟩ | ⟨q1, q2, q3⟩
    · exact Or.inl q
    · exact Or.inr (Or.inl (⟨gr_lab g q1 (by decide), q2, fun i h0 h1 => by rw [(gr_ci g c2 (170, -1) (by decide) (L := 170) rfl (Or.inl rfl) q1 (by decide))]; exact gr_lab g (q3 i h0 h1) (by decide)⟩))
    · exact Or.inr (Or.inr (Or.inl (⟨gr_lab g q1 (by decide), q2, fun i h0 h1 => by rw [(gr_ci g c2 (171, -1) (by decide) (L := 171) rfl (Or.inl rfl) q1 (by decide))]; exact gr_lab g (q3 i h0 h1) (by decide)⟩)))
    · exact Or.inr (Or.inr (Or.inr (⟨gr_lab g q1 (by decide), q2, fun i h0 h1 => by rw [(gr_ci g c2 (172, -1) (by decide) (L := 172) rfl (Or.inl rfl) q1 (by decide))]; exact gr_lab g (q3 i h0 h1) (by decide)⟩)))
  · intro l hl
    have hl := gr_bk g c1 rfl hl
    rw [(gr_ci g c2 (157, 1) (by decide) (L := 157) (j := 1) rfl (Or.inr rfl) hl (by decide)), (gr_ci g c2 (157, 2) (by decide) (L := 157) (j := 2) rfl (Or.inr rfl) hl (by decide))]
    rcases a4 l hl with q | ⟨q1, q2, q3⟩ | ⟨q1, q2, q3⟩ | ⟨q1, q2, q3⟩ | ⟨q1, q2, q3⟩ | ⟨q1, q2, q3⟩ | ⟨q1, q2, q3⟩
    · exact Or.inl q
    · exact Or.inr (Or.inl (⟨gr_lab g q1 (by decide), q2, fun i h0 h1 => by rw [(gr_ci g c2 (173, -1) (by decide) (L := 173) rfl (Or.inl rfl) q1 (by decide))]; exact gr_lab g (q3 i h0 h1) (by decide)⟩))
    · exact Or.inr (Or.inr (Or.inl (⟨gr_lab g q1 (by decide), q2, fun i h0 h1 => by rw [(gr_ci g c2 (174, -1) (by decide) (L := 174) rfl (Or.inl rfl) q1 (by decide))]; exact gr_lab g (q3 i h0 h1) (by decide)⟩)))
    · exact Or.inr (Or.inr (Or.inr (Or.inl (⟨gr_lab g q1 (by decide), q2, fun i h0 h1 => by rw [(gr_ci g c2 (175, -1) (by decide) (L := 175) rfl (Or.inl rfl) q1 (by decide))]; exact gr_lab g (q3 i h0 h1) (by decide)⟩))))
    · exact Or.inr (Or.inr (Or.inr (Or.inr (Or.inl (⟨gr_lab g q1 (by decide), q2, fun i h0 h1 => by rw [(gr_ci g c2 (176, -1) (by decide) (L := 176) rfl (Or.inl rfl) q1 (by decide))]; exact gr_lab g (q3 i h0 h1) (by decide)⟩)))))
    · exact Or.inr (Or.inr (Or.inr (Or.inr (Or.inr (Or.inl (⟨gr_lab g q1 (by decide), q2, fun i h0 h1 => by rw [(gr_ci g c2 (177, -1) (by decide) (L := 177) rfl (Or.inl rfl) q1 (by decide))]; exact gr_lab g (q3 i h0 h1) (by decide)⟩))))))
    · exact Or.inr (Or.inr (Or.inr (Or.inr (Or.inr (Or.inr (⟨gr_lab g q1 (by decide), q2, fun i h0 h1 => by rw [(gr_ci g c2 (178, -1) (by decide) (L := 178) rfl (Or.inl rfl) q1 (by decide))]; exact gr_lab g (q3 i h0 h1) (by decide)⟩))))))
  · intro l hl
    have hl := gr_bk g c1 rfl hl
    rw [(gr_ci g c2 (158, 1) (by decide) (L := 158) (j := 1) rfl (Or.inr rfl) hl (by decide)), (gr_ci g c2 (158, 2) (by decide) (L := 158) (j := 2) rfl (Or.inr rfl) hl (by decide))]
    rcases a5 l hl with q | ⟨q1, q2, q3⟩
    · exact Or.inl q
    · exact Or.inr (⟨gr_lab g q1 (by decide), q2, fun i h0 h1 => by rw [(gr_ci g c2 (179, -1) (by decide) (L := 179) rfl (Or.inl rfl) q1 (by decide))]; exact gr_lab g (q3 i h0 h1) (by decide)⟩)
  · intro l hl
    have hl := gr_bk g c1 rfl hl
    rw [(gr_ci g c2 (159, 1) (by decide) (L := 159) (j := 1) rfl (Or.inr rfl) hl (by decide)), (gr_ci g c2 (159, 2) (by decide) (L := 159) (j := 2) rfl (Or.inr rfl) hl (by decide))]
    rcases a6 l hl with q | ⟨q1, q2, q3⟩ | ⟨q1, q2, q3⟩ | ⟨q1, q2, q3⟩ | ⟨q1, q2, q3⟩ | ⟨q1, q2, q3⟩ | ⟨q1, q2, q3⟩
    · exact Or.inl q
    · exact Or.inr (Or.inl (⟨gr_lab g q1 (by decide), q2, fun i h0 h1 => by rw [(gr_ci g c2 (180, -1) (by decide) (L := 180) rfl (Or.inl rfl) q1 (by decide))]; exact gr_lab g (q3 i h0 h1) (by decide)⟩))
    · exact Or.inr (Or.inr (Or.inl (⟨gr_lab g q1 (by decide), q2, fun i h0 h1 => by rw [(gr_ci g c2 (181, -1) (by decide) (L := 181) rfl (Or.inl rfl) q1 (by decide))]; exact gr_lab g (q3 i h0 h1) (by decide)⟩)))
    · exact Or.inr (Or.inr (Or.inr (Or.inl (⟨gr_lab g q1 (by decide), q2, fun i h0 h1 => by rw [(gr_ci g c2 (182, -1) (by decide) (L := 182) rfl (Or.inl rfl) q1 (by decide))]; exact gr_lab g (q3 i h0 h1) (by decide)⟩))))
    · exact Or.inr (Or.inr (Or.inr (Or.inr (Or.inl (⟨gr_lab g q1 (by decide), q2, fun i h0 h1 => by rw [(gr_ci g c2 (183, -1) (by decide) (L := 183) rfl (Or.inl rfl) q1 (by decide))]; exact gr_lab g (q3 i h0 h1) (by decide)⟩)))))
    · exact Or.inr (Or.inr (Or.inr (Or.inr (Or.inr (Or.inl (⟨gr_lab g q1 (by decide), q2, fun i h0 h1 => by rw [(gr_ci g c2 (184, -1) (by decide) (L := 184) rfl (Or.inl rfl) q1 (by decide))]; exact gr_lab g (q3 i h0 h1) (by decide)⟩))))))
    · exact Or.inr (Or.inr (Or.inr (Or.inr (Or.inr (Or.inr (⟨gr_lab g q1 (by decide), q2, fun i h0 h1 => by rw [(gr_ci g c2 (185, -1) (by decide) (L := 185) rfl (Or.inl rfl) q1 (by decide))]; exact gr_lab g (q3 i h0 h1) (by decide)⟩))))))
  · intro t ht i h0 h1 hh
    have ht := gr_bk g c1 rfl ht
    rw [(gr_ci g c2 (136, 3) (by decide) (L := 136) (j := 3) rfl (Or.inr rfl) ht (by decide)), (gr_ci g c2 (120, -1) (by decide) (L := 120) rfl (Or.inl rfl) (tk t ht).1 (by decide))] at hh
    rw [(gr_ci g c2 (136, 5) (by decide) (L := 136) (j := 5) rfl (Or.inr rfl) ht (by decide)), (gr_ci g c2 (121, -1) (by decide) (L := 121) rfl (Or.inl rfl) (tk t ht).2 (by decide))]
    exact a7 t ht i h0 h1 hh
  · intro t u ht hu hh
    have ht := gr_bk g c1 rfl ht
    have hu := gr_bk g c1 rfl hu
    rw [(gr_ci g c2 (136, 3) (by decide) (L := 136) (j := 3) rfl (Or.inr rfl) ht (by decide)), (gr_ci g c2 (136, 3) (by decide) (L := 136) (j := 3) rfl (Or.inr rfl) hu (by decide)), (gr_ci g c2 (136, 5) (by decide) (L := 136) (j := 5) rfl (Or.inr rfl) ht (by decide)), (gr_ci g c2 (136, 5) (by decide) (L := 136) (j := 5) rfl (Or.inr rfl) hu (by decide))] at hh
    exact a8 t u ht hu hh
  · intro p l hp hl
    have hp := gr_bk g c1 rfl hp
    have hl := gr_bk g c1 rfl hl
    rw [(gr_ci g c2 (138, 2) (by decide) (L := 138) (j := 2) rfl (Or.inr rfl) hp (by decide)), (gr_ci g c2 (156, 2) (by decide) (L := 156) (j := 2) rfl (Or.inr rfl) hl (by decide))]
    exact a9 p l hp hl
def rwk (L : Int) : Bool := !(L == 120) && !(L == 121) && !(L == 128) && !(L == 129) && !(L == 130) && !(L == 131) && !(L == 132) && !(L == 136) && !(L == 137) && !(L == 138) && !(L == 139) && !(L == 140) && !(L == 141) && !(L == 154) && !(L == 155) && !(L == 156) && !(L == 157) && !(L == 158) && !(L == 159) && !(L == 160) && !(L == 161) && !(L == 162) && !(L == 163) && !(L == 164) && !(L == 165) && !(L == 166) && !(L == 167) && !(L == 168) && !(L == 169) && !(L == 170) && !(L == 171) && !(L == 172) && !(L == 173) && !(L == 174) && !(L == 175) && !(L == 176) && !(L == 177) && !(L == 178) && !(L == 179) && !(L == 180) && !(L == 181) && !(L == 182) && !(L == 183) && !(L == 184) && !(L == 185)
theorem rwk_ne {L K : Int} (h : rwk L = true) (hk : rwk K = false) : K ≠ L := fun e => by rw [e, h] at hk; cases hk
theorem rs_bk {a L L' x K : Int} (r : Rs a L L' S G S' G') (hn : K ≠ L') (hx : S' x = K) : S x = K ∧ x ≠ a := by
  have e : x ≠ a := fun e => hn (by rw [← hx, e]; exact r.1)
  exact ⟨by rw [← r.2.1 x e]; exact hx, e⟩
theorem ci_rs {a L L' : Int} (h : CI E S G) (tk : TKP S G) (r : Rs a L L' S G S' G') (hS : S a = L) (c : rwk L = true) (cU : uql L' = false) (hT : L' = 136 → (S (G L a 3) = 120 ∧ S (G L a 5) = 121) ∧ (∀ i : Int, 0 ≤ i → i < 30 → (G 120 (G L a 3) i = 0 ∨ G 120 (G L a 3) i = 4) → 0 ≤ G 121 (G L a 5) i ∧ G 121 (G L a 5) i ≤ 19) ∧ ∀ u : Int, S u = 136 → G L a 3 ≠ G 136 u 3 ∧ G L a 5 ≠ G 136 u 5) (hP : L' = 138 → ∀ l : Int, S l = 156 → G L a 2 < G 156 l 2) : CI E S' G' := by
  obtain ⟨a0, a1, a2, a3, a4, a5, a6, a7, a8, a9⟩ := h
  have nq : ∀ K : Int, uql K = true → K ≠ L' := fun K hK e => by rw [e, cU] at hK; cases hK
  have lb : ∀ x K : Int, rwk K = false → S x = K → S' x = K := fun x K hk hx => r.lab hS hx (rwk_ne c hk)
  have at_ : ∀ x K j : Int, rwk K = false → S x = K → G' K x j = G K x j := fun x K j hk hx => r.at hS hx (rwk_ne c hk)
  refine ⟨?_, ?_, ?_, ?_, ?_, ?_, ?_, ?_, ?_, ?_⟩
  · intro x y hxy hu
    have hx := (rs_bk r (nq _ hu) (rfl : S' x = S' x)).1
    have hy := (rs_bk r (nq _ hu) hxy.symm).1
    exact a0 x y (hx.trans hy.symm) (by rw [hx]; exact hu)
  · intro l hl
    have hl := (rs_bk r (nq _ rfl) hl).1
    rw [at_ l 154 1 rfl hl, at_ l 154 2 rfl hl]
    rcases a1 l hl with q | ⟨q1, q2, q3⟩ | ⟨q1, q2, q3⟩ | ⟨q1, q2, q3⟩ | ⟨q1, q2, q3⟩ | ⟨q1, q2, q3⟩
    · exact Or.inl q
    · exact Or.inr (Or.inl (⟨lb _ _ rfl q1, q2, fun i h0 h1 => by rw [at_ _ 160 i rfl q1]; exact lb _ _ rfl (q3 i h0 h1)⟩))
    · exact Or.inr (Or.inr (Or.inl (⟨lb _ _ rfl q1, q2, fun i h0 h1 => by rw [at_ _ 161 i rfl q1]; exact lb _ _ rfl (q3 i h0 h1)⟩)))
    · exact Or.inr (Or.inr (Or.inr (Or.inl (⟨lb _ _ rfl q1, q2, fun i h0 h1 => by rw [at_ _ 162 i rfl q1]; exact lb _ _ rfl (q3 i h0 h1)⟩))))
    · exact Or.inr (Or.inr (Or.inr (Or.inr (Or.inl (⟨lb _ _ rfl q1, q2, fun i h0 h1 => by rw [at_ _ 163 i rfl q1]; exact lb _ _ rfl (q3 i h0 h1)⟩)))))
    · exact Or.inr (Or.inr (Or.inr (Or.inr (Or.inr (⟨lb _ _ rfl q1, q2, fun i h0 h1 => by rw [at_ _ 164 i rfl q1]; exact lb _ _ rfl (q3 i h0 h1)⟩)))))
  · intro l hl
    have hl := (rs_bk r (nq _ rfl) hl).1
    rw [at_ l 155 1 rfl hl, at_ l 155 2 rfl hl]
    rcases a2 l hl with q | ⟨q1, q2, q3⟩ | ⟨q1, q2, q3⟩ | ⟨q1, q2, q3⟩ | ⟨q1, q2, q3⟩ | ⟨q1, q2, q3⟩
    · exact Or.inl q
    · exact Or.inr (Or.inl (⟨lb _ _ rfl q1, q2, fun i h0 h1 => by rw [at_ _ 165 i rfl q1]; exact lb _ _ rfl (q3 i h0 h1)⟩))
    · exact Or.inr (Or.inr (Or.inl (⟨lb _ _ rfl q1, q2, fun i h0 h1 => by rw [at_ _ 166 i rfl q1]; exact lb _ _ rfl (q3 i h0 h1)⟩)))
    · exact Or.inr (Or.inr (Or.inr (Or.inl (⟨lb _ _ rfl q1, q2, fun i h0 h1 => by rw [at_ _ 167 i rfl q1]; exact lb _ _ rfl (q3 i h0 h1)⟩))))
    · exact Or.inr (Or.inr (Or.inr (Or.inr (Or.inl (⟨lb _ _ rfl q1, q2, fun i h0 h1 => by rw [at_ _ 168 i rfl q1]; exact lb _ _ rfl (q3 i h0 h1)⟩)))))
    · exact Or.inr (Or.inr (Or.inr (Or.inr (Or.inr (⟨lb _ _ rfl q1, q2, fun i h0 h1 => by rw [at_ _ 169 i rfl q1]; exact lb _ _ rfl (q3 i h0 h1)⟩)))))
  · intro l hl
    have hl := (rs_bk r (nq _ rfl) hl).1
    rw [at_ l 156 1 rfl hl, at_ l 156 2 rfl hl]
    rcases a3 l hl with q | ⟨q1, q2, q3⟩ | ⟨q1, q2, q3⟩ | ⟨q1, q2, q3⟩
    · exact Or.inl q
    · exact Or.inr (Or.inl (⟨lb _ _ rfl q1, q2, fun i h0 h1 => by rw [at_ _ 170 i rfl q1]; exact lb _ _ rfl (q3 i h0 h1)⟩))
    · exact Or.inr (Or.inr (Or.inl (⟨lb _ _ rfl q1, q2, fun i h0 h1 => by rw [at_ _ 171 i rfl q1]; exact lb _ _ rfl (q3 i h0 h1)⟩)))
    · exact Or.inr (Or.inr (Or.inr (⟨lb _ _ rfl q1, q2, fun i h0 h1 => by rw [at_ _ 172 i rfl q1]; exact lb _ _ rfl (q3 i h0 h1)⟩)))
  · intro l hl
    have hl := (rs_bk r (nq _ rfl) hl).1
    rw [at_ l 157 1 rfl hl, at_ l 157 2 rfl hl]
    rcases a4 l hl with q | ⟨q1, q2, q3⟩ | ⟨q1, q2, q3⟩ | ⟨q1, q2, q3⟩ | ⟨q1, q2, q3⟩ | ⟨q1, q2, q3⟩ | ⟨q1, q2, q3⟩
    · exact Or.inl q
    · exact Or.inr (Or.inl (⟨lb _ _ rfl q1, q2, fun i h0 h1 => by rw [at_ _ 173 i rfl q1]; exact lb _ _ rfl (q3 i h0 h1)⟩))
    · exact Or.inr (Or.inr (Or.inl (⟨lb _ _ rfl q1, q2, fun i h0 h1 => by rw [at_ _ 174 i rfl q1]; exact lb _ _ rfl (q3 i h0 h1)⟩)))
    · exact Or.inr (Or.inr (Or.inr (Or.inl (⟨lb _ _ rfl q1, q2, fun i h0 h1 => by rw [at_ _ 175 i rfl q1]; exact lb _ _ rfl (q3 i h0 h1)⟩))))
    · exact Or.inr (Or.inr (Or.inr (Or.inr (Or.inl (⟨lb _ _ rfl q1, q2, fun i h0 h1 => by rw [at_ _ 176 i rfl q1]; exact lb _ _ rfl (q3 i h0 h1)⟩)))))
    · exact Or.inr (Or.inr (Or.inr (Or.inr (Or.inr (Or.inl (⟨lb _ _ rfl q1, q2, fun i h0 h1 => by rw [at_ _ 177 i rfl q1]; exact lb _ _ rfl (q3 i h0 h1)⟩))))))
    · exact Or.inr (Or.inr (Or.inr (Or.inr (Or.inr (Or.inr (⟨lb _ _ rfl q1, q2, fun i h0 h1 => by rw [at_ _ 178 i rfl q1]; exact lb _ _ rfl (q3 i h0 h1)⟩))))))
  · intro l hl
    have hl := (rs_bk r (nq _ rfl) hl).1
    rw [at_ l 158 1 rfl hl, at_ l 158 2 rfl hl]
    rcases a5 l hl with q | ⟨q1, q2, q3⟩
    · exact Or.inl q
    · exact Or.inr (⟨lb _ _ rfl q1, q2, fun i h0 h1 => by rw [at_ _ 179 i rfl q1]; exact lb _ _ rfl (q3 i h0 h1)⟩)
  · intro l hl
    have hl := (rs_bk r (nq _ rfl) hl).1
    rw [at_ l 159 1 rfl hl, at_ l 159 2 rfl hl]
    rcases a6 l hl with q | ⟨q1, q2, q3⟩ | ⟨q1, q2, q3⟩ | ⟨q1, q2, q3⟩ | ⟨q1, q2, q3⟩ | ⟨q1, q2, q3⟩ | ⟨q1, q2, q3⟩
    · exact Or.inl q
    · exact Or.inr (Or.inl (⟨lb _ _ rfl q1, q2, fun i h0 h1 => by rw [at_ _ 180 i rfl q1]; exact lb _ _ rfl (q3 i h0 h1)⟩))
    · exact Or.inr (Or.inr (Or.inl (⟨lb _ _ rfl q1, q2, fun i h0 h1 => by rw [at_ _ 181 i rfl q1]; exact lb _ _ rfl (q3 i h0 h1)⟩)))
    · exact Or.inr (Or.inr (Or.inr (Or.inl (⟨lb _ _ rfl q1, q2, fun i h0 h1 => by rw [at_ _ 182 i rfl q1]; exact lb _ _ rfl (q3 i h0 h1)⟩))))
    · exact Or.inr (Or.inr (Or.inr (Or.inr (Or.inl (⟨lb _ _ rfl q1, q2, fun i h0 h1 => by rw [at_ _ 183 i rfl q1]; exact lb _ _ rfl (q3 i h0 h1)⟩)))))
    · exact Or.inr (Or.inr (Or.inr (Or.inr (Or.inr (Or.inl (⟨lb _ _ rfl q1, q2, fun i h0 h1 => by rw [at_ _ 184 i rfl q1]; exact lb _ _ rfl (q3 i h0 h1)⟩))))))
    · exact Or.inr (Or.inr (Or.inr (Or.inr (Or.inr (Or.inr (⟨lb _ _ rfl q1, q2, fun i h0 h1 => by rw [at_ _ 185 i rfl q1]; exact lb _ _ rfl (q3 i h0 h1)⟩))))))
  · intro t ht i h0 h1 hh
    by_cases e : t = a
    · subst e
      obtain ⟨⟨w1, w2⟩, w3, -⟩ := hT (r.1.symm.trans ht)
      have q3 : G' 136 t 3 = G L t 3 := by rw [← (r.1.symm.trans ht), r.2.2.1]
      have q5 : G' 136 t 5 = G L t 5 := by rw [← (r.1.symm.trans ht), r.2.2.1]
      rw [q3, at_ _ 120 i rfl w1] at hh
      rw [q5, at_ _ 121 i rfl w2]
      exact w3 i h0 h1 hh
    · have ht := (r.2.1 t e).symm.trans ht
      rw [at_ t 136 3 rfl ht, at_ _ 120 i rfl (tk t ht).1] at hh
      rw [at_ t 136 5 rfl ht, at_ _ 121 i rfl (tk t ht).2]
      exact a7 t ht i h0 h1 hh
  · intro t u ht hu hh
    by_cases e : t = a
    · by_cases e2 : u = a
      · rw [e, e2]
      · exfalso
        subst e
        have hu := (r.2.1 u e2).symm.trans hu
        obtain ⟨-, -, w3⟩ := hT (r.1.symm.trans ht)
        have q3 : G' 136 t 3 = G L t 3 := by rw [← (r.1.symm.trans ht), r.2.2.1]
        have q5 : G' 136 t 5 = G L t 5 := by rw [← (r.1.symm.trans ht), r.2.2.1]
        rw [at_ u 136 3 rfl hu, at_ u 136 5 rfl hu, q3, q5] at hh
        rcases hh with hh | hh
        · exact (w3 u hu).1 hh
        · exact (w3 u hu).2 hh
    · have ht' := (r.2.1 t e).symm.trans ht
      by_cases e2 : u = a
      · exfalso
        subst e2
        obtain ⟨-, -, w3⟩ := hT (r.1.symm.trans hu)
        rw [at_ t 136 3 rfl ht', at_ t 136 5 rfl ht'] at hh
        have q3 : G' 136 u 3 = G L u 3 := by rw [← (r.1.symm.trans hu), r.2.2.1]
        have q5 : G' 136 u 5 = G L u 5 := by rw [← (r.1.symm.trans hu), r.2.2.1]
        rw [q3, q5] at hh
        rcases hh with hh | hh
        · exact (w3 t ht').1 hh.symm
        · exact (w3 t ht').2 hh.symm
      · have hu := (r.2.1 u e2).symm.trans hu
        rw [at_ t 136 3 rfl ht', at_ t 136 5 rfl ht', at_ u 136 3 rfl hu, at_ u 136 5 rfl hu] at hh
        exact a8 t u ht' hu hh
  · intro p l hp hl
    have hl := (rs_bk r (nq _ rfl) hl).1
    rw [at_ l 156 2 rfl hl]
    by_cases e : p = a
    · subst e
      have q : G' 138 p 2 = G L p 2 := by rw [← (r.1.symm.trans hp), r.2.2.1]
      rw [q]
      exact hP (r.1.symm.trans hp) l hl
    · have hp := (r.2.1 p e).symm.trans hp
      rw [at_ p 138 2 rfl hp]
      exact a9 p l hp hl
end CIG
