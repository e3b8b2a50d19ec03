/-- what a run that makes new things leaves of the old ones -/
def Gr (nl : List Int) (ws : List (Int × Int)) (S : Sg) (G : Gh) (S' : Sg) (G' : Gh) : Prop := Ex S S' ∧ (∀ x : Int, S x = 0 → S' x = 0 ∨ S' x ∈ nl) ∧ ∀ x j : Int, S x ≠ 0 → inm ws (S x) j = false → G' (S x) x j = G (S x) x j
section GRR
variable {nl : List Int} {ws : List (Int × Int)} {S S' S'' : Sg} {G G' G'' : Gh} {x a L j : Int}
theorem gr_refl (nl : List Int) (ws : List (Int × Int)) (S : Sg) (G : Gh) : Gr nl ws S G S G := ⟨Ex.refl S, fun _ h => Or.inl h, fun _ _ _ _ => rfl⟩
theorem gr_at (g : Gr nl ws S G S' G') (hx : S x = L) (hL : L ≠ 0) (hi : inm ws L j = false) : G' L x j = G L x j := by
  subst hx
  exact g.2.2 x j hL hi
theorem gr_up (g : Gr nl ws S G S' G') {v : Int} (h : inm ws L j = true) : Gr nl ws S G S' (up G' L a j v) := by
  refine ⟨g.1, g.2.1, fun x i hx hi => ?_⟩
  rw [up_ne (fun q => by rw [q.1, q.2.2, h] at hi; cases hi)]
  exact g.2.2 x i hx hi
theorem gr_old (g : Gr nl ws S G S' G') (h : S' a = 0) : S a = 0 := by
  apply Classical.byContradiction
  intro q
  exact q (by rw [← g.1 a q]; exact h)
theorem grx_new (g : Gr nl ws S G S' G') {f : Int → Int} (h : S' a = 0) (hn : L ∈ nl) : Gr nl ws S G (sup S' a L) (nwG G' L a f) := by
  have h0 := gr_old g h
  refine ⟨fun y hy => ?_, fun y hy => ?_, fun y i hy hi => ?_⟩
  · rw [sup_ne (fun e => hy (by rw [e]; exact h0))]
    exact g.1 y hy
  · by_cases e : y = a
    · rw [e, sup_self]
      exact Or.inr hn
    · rw [sup_ne e]
      exact g.2.1 y hy
  · rw [nwG_ne (fun q => hy (by rw [q.2]; exact h0))]
    exact g.2.2 y i hy hi
def subw (a b : List (Int × Int)) : Bool := a.all (fun p => b.any (fun q => p.1 == q.1 && (q.2 == -1 || p.2 == q.2)))
theorem subw_in {a b : List (Int × Int)} (h : subw a b = true) (hb : inm b L j = false) : inm a L j = false := by
  cases e : inm a L j with
  | false => rfl
  | true =>
    exfalso
    obtain ⟨p, hp, e1, e2⟩ := inm_iff.mp e
    obtain ⟨q, hq, hc⟩ := List.any_eq_true.mp (List.all_eq_true.mp h p hp)
    simp only [Bool.and_eq_true, Bool.or_eq_true, beq_iff_eq] at hc
    have : inm b L j = true := inm_iff.mpr ⟨q, hq, by rw [← hc.1]; exact e1, by
      rcases hc.2 with h2 | h2
      · exact Or.inl h2
      · rcases e2 with e2 | e2
        · exact Or.inl (h2.symm.trans e2)
        · exact Or.inr (h2.symm.trans e2)⟩
    rw [this] at hb
    cases hb
theorem gr_hw (g : Gr nl ws S G S' G') {ws' : List (Int × Int)} {G1 : Gh} (h : subw ws' ws = true) : Gr nl ws S G S' (hw ws' G' G1) := by
  refine ⟨g.1, g.2.1, fun x i hx hi => ?_⟩
  rw [hw_out (subw_in h hi)]
  exact g.2.2 x i hx hi
theorem gr_call (g : Gr nl ws S G S' G') {nl' : List Int} {ws' : List (Int × Int)} (g' : Gr nl' ws' S' G' S'' G'') (hn : nl'.all (fun q => nl.contains q) = true) (h : subw ws' ws = true) : Gr nl ws S G S'' G'' := by
  refine ⟨g.1.trans g'.1, fun x hx => ?_, fun x i hx hi => ?_⟩
  · rcases g.2.1 x hx with q | q
    · rcases g'.2.1 x q with r | r
      · exact Or.inl r
      · exact Or.inr (by simpa using List.all_eq_true.mp hn _ r)
    · by_cases e : S' x = 0
      · rcases g'.2.1 x e with r | r
        · exact Or.inl r
        · exact Or.inr (by simpa using List.all_eq_true.mp hn _ r)
      · rw [g'.1 x e]
        exact Or.inr q
  · have e := g.1 x hx
    have q := g'.2.2 x i (by rw [e]; exact hx) (by rw [e]; exact subw_in h hi)
    rw [e] at q
    rw [q]
    exact g.2.2 x i hx hi
theorem lab_of {x y : Int} (h : x = y) (hs : S x = L) : S y = L := h ▸ hs
end GRR
section RUB
variable {E : En} {M : Mk} {as : List Vl} {d mc ms : Nat} {Y : Option Vl → Sg → Gh → Prop} {X : Xp} {cs ss : Nat} {S : Sg} {G : Gh} {P : Cod} {pc tgt idx : Nat} {st : List Vl} {lo : Lo} {x y off a L : Int}
/-- the empty array that a new list begins with -/
theorem r_getsE (hX : Cl E M as d mc ms Y X) (hP : Dec M.2.1 P) (hf : fd P pc = some (.getstatic idx, 3)) (w1 : Cond.fieldLink M.1.cls idx "java/util/ArrayList" "DEFAULTCAPACITY_EMPTY_ELEMENTDATA" "[Ljava/lang/Object;" ∈ tb) (kk : X cs ss (pc + 3) ((2, Ad E 0) :: st) lo S G) : X cs ss pc st lo S G := by
  obtain ⟨p, e, z, m, below, meth, c, hx, hb, hr, hml, hown, hlk, hnm, hts, hK, rfl⟩ := hX
  intro H locs ls hR hz hL hl
  have kk := kk H locs ls hR hz hL hl
  simp only [ts, List.map_cons] at kk
  rw [tv2 hK.2.2.2.2.2.2.1] at kk
  obtain ⟨cf, kf, fi, f, a, cell, h1, h2, h3, h4, h5, h6, h7, h8⟩ := hK.2.2.2.2.1.kept (fun a _ ha => hR.2.1 a (by first | decide | omega))
  exact W.gets hx hb hown (hts _ w1) h1 h2 h3 h4 h5 (fun e => by rw [e] at h6; cases h6) h7 rfl (fd_dec hP hf) kk
end RUB
