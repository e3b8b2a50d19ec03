section UQS
variable {E : En} {S S' : Sg} {G G' : Gh} {nl t t' : List Int} {ws : List (Int × Int)} {a L L' : Int}
def UqL (t : List Int) (S : Sg) : Prop := ∀ L ∈ t, ∀ a b : Int, S a = L → S b = L → a = b
def EmL (E : En) (t : List Int) (S : Sg) (G : Gh) : Prop := ∀ L ∈ t, ∀ l : Int, S l = L → G L l 1 = Ad E 0 ∧ G L l 2 = 0
theorem uq_nil (S : Sg) : UqL [] S := fun _ h => absurd h List.not_mem_nil
theorem em_nil (E : En) (S : Sg) (G : Gh) : EmL E [] S G := fun _ h => absurd h List.not_mem_nil
theorem uq_gr (u : UqL t S) (g : Gr nl ws S G S' G') (c : t.all (fun q => q != 0 && !nl.contains q) = true) : UqL t S' := by
  intro q hq x y hx hy
  have h := List.all_eq_true.mp c q hq
  simp only [Bool.and_eq_true, bne_iff_ne, ne_eq, Bool.not_eq_true'] at h
  exact u q hq x y (gr_back g hx h.1 h.2) (gr_back g hy h.1 h.2)
theorem uq_rs (u : UqL t S) (n : No [L'] S) (h : Rs a L L' S G S' G') (c : t.all (fun q => q != L') = true) : UqL (L' :: t) S' := by
  intro q hq x y hx hy
  rcases List.mem_cons.mp hq with w | w
  · subst w
    have k : ∀ z : Int, S' z = q → z = a := fun z hz => Classical.byContradiction fun e => n q (List.mem_singleton.mpr rfl) z ((h.2.1 z e).symm.trans hz)
    exact (k x hx).trans (k y hy).symm
  · have h1 := List.all_eq_true.mp c q w
    simp only [bne_iff_ne, ne_eq] at h1
    exact u q w x y (rs_bk h h1 hx).1 (rs_bk h h1 hy).1
theorem uq_rsN (u : UqL t S) (h : Rs a L L' S G S' G') (c : t.all (fun q => q != L') = true) : UqL t S' := by
  intro q w x y hx hy
  have h1 := List.all_eq_true.mp c q w
  simp only [bne_iff_ne, ne_eq] at h1
  exact u q w x y (rs_bk h h1 hx).1 (rs_bk h h1 hy).1
theorem uq_app (u : UqL t S) (u' : UqL t' S) : UqL (t ++ t') S := fun q hq => (List.mem_append.mp hq).elim (u q) (u' q)
theorem uq_sub (u : UqL t S) (c : t'.all (fun q => t.contains q) = true) : UqL t' S := fun q hq => u q (by simpa using List.all_eq_true.mp c q hq)
theorem em_app (u : EmL E t S G) (u' : EmL E t' S G) : EmL E (t ++ t') S G := fun q hq => (List.mem_append.mp hq).elim (u q) (u' q)
theorem em_up {j v : Int} (u : EmL E t S G) (c : t.all (fun q => q != L) = true) : EmL E t S (up G L a j v) := by
  intro q hq l hl
  have h1 := List.all_eq_true.mp c q hq
  simp only [bne_iff_ne, ne_eq] at h1
  rw [up_ne (fun w => h1 w.1), up_ne (fun w => h1 w.1)]
  exact u q hq l hl
theorem em_hw {G1 : Gh} (u : EmL E t S G) (c : t.all (fun q => !inm ws q 1 && !inm ws q 2) = true) : EmL E t S (hw ws G G1) := by
  intro q hq l hl
  have h1 := List.all_eq_true.mp c q hq
  simp only [Bool.and_eq_true, Bool.not_eq_true'] at h1
  rw [hw_out h1.1, hw_out h1.2]
  exact u q hq l hl
theorem em_gr (u : EmL E t S G) (g : Gr nl ws S G S' G') (c : t.all (fun q => q != 0 && !nl.contains q && !inm ws q 1 && !inm ws q 2) = true) : EmL E t S' G' := by
  intro q hq l hl
  have h := List.all_eq_true.mp c q hq
  simp only [Bool.and_eq_true, bne_iff_ne, ne_eq, Bool.not_eq_true'] at h
  have hl' := gr_back g hl h.1.1.1 h.1.1.2
  rw [gr_at g hl' h.1.1.1 h.1.2, gr_at g hl' h.1.1.1 h.2]
  exact u q hq l hl'
theorem em_rs (u : EmL E t S G) (n : No [L'] S) (h : Rs a L L' S G S' G') (e1 : Ad E 0 = G L a 1) (e2 : G L a 2 = 0) (c : t.all (fun q => q != L') = true) : EmL E (L' :: t) S' G' := by
  intro q hq l hl
  rcases List.mem_cons.mp hq with w | w
  · subst w
    have e : l = a := Classical.byContradiction fun e => n q (List.mem_singleton.mpr rfl) l ((h.2.1 l e).symm.trans hl)
    subst e
    rw [h.2.2.1, h.2.2.1]
    exact ⟨e1.symm, e2⟩
  · have h1 := List.all_eq_true.mp c q w
    simp only [bne_iff_ne, ne_eq] at h1
    obtain ⟨hl', ne⟩ := rs_bk h h1 hl
    rw [h.2.2.2 q l 1 ne, h.2.2.2 q l 2 ne]
    exact u q w l hl'
theorem em_rsN (u : EmL E t S G) (h : Rs a L L' S G S' G') (c : t.all (fun q => q != L') = true) : EmL E t S' G' := by
  intro q w l hl
  have h1 := List.all_eq_true.mp c q w
  simp only [bne_iff_ne, ne_eq] at h1
  obtain ⟨hl', ne⟩ := rs_bk h h1 hl
  rw [h.2.2.2 q l 1 ne, h.2.2.2 q l 2 ne]
  exact u q w l hl'
theorem ci_mkU (u : UqL [128, 129, 130, 131, 132, 154, 155, 156, 157, 158, 159] S) (n : No [136, 138] S) (e : EmL E [154, 155, 156, 157, 158, 159] S G) : CI E S G := by
  refine ⟨?_, fun l hl => Or.inl (e 154 (by decide) l hl), fun l hl => Or.inl (e 155 (by decide) l hl), fun l hl => Or.inl (e 156 (by decide) l hl), fun l hl => Or.inl (e 157 (by decide) l hl), fun l hl => Or.inl (e 158 (by decide) l hl), fun l hl => Or.inl (e 159 (by decide) l hl), fun t ht => absurd ht (n 136 (by decide) t), fun t _ ht => absurd ht (n 136 (by decide) t), fun p _ hp => absurd hp (n 138 (by decide) p)⟩
  intro a b hab hu
  refine u (S a) ?_ a b rfl hab.symm
  unfold uql at hu
  simp only [Bool.or_eq_true, beq_iff_eq] at hu
  simp only [List.mem_cons, List.not_mem_nil, or_false]
  omega
end UQS
section RUN
variable {E : En} {M : Mk} {as : List Vl} {d mc ms : Nat} {Y : Option Vl → Sg → Gh → Prop} {X : Xp} {cs ss : Nat} {S : Sg} {G : Gh} {P : Cod} {pc tgt idx : Nat} {st : List Vl} {lo : Lo} {x y off a L : Int}
/-- an object's own making, called from a nest mate -/
def CiN (own : String) (idx : Nat) (M' : Mk) (n : Nat) : Prop := Co M' n ∧ (∃ host : String, Cond.methodLinkNest own idx M'.1 host ∈ xwl) ∧ M'.1.name = "<init>" ∧ Cond.instanceMethod M'.1 ∈ tb ∧ M'.2.2.2 = none
theorem r_callIN (hG : Gd) (hX : Cl E M as d mc ms Y X) (hP : Dec M.2.1 P) (hf : fd P pc = some (.invokespecial idx, 3)) {M' : Mk} {n d' mc' ms' : Nat} {as' : List Vl} {stk : List Vl} {Y' : Option Vl → Sg → Gh → Prop} (hC : CiN M.1.cls idx M' n) (h0 : 0 ≤ a) (hd : d' + 1 ≤ d) (hmc : cs + mc' ≤ mc) (hms : ss + ms' ≤ ms) (hn : as'.length = n) (hstk : stk = as'.reverse ++ (2, a) :: st) (hsc : sc st ≤ 8)
    (hc : Calls E M' ((2, a) :: as') S G d' mc' ms' Y') (k : ∀ r S' G', Y' r S' G' → X (cs + mc') (ss + ms') (pc + 3) (r.toList ++ st) lo S' G') : X cs ss pc stk lo S G := by
  obtain ⟨p, e, z, m, below, meth, c, hx, hb, hr, hml, hown, hlk, hnm, hts, hK, rfl⟩ := hX
  obtain ⟨h1, ⟨host, h2⟩, h3, h4, h5⟩ := hC
  intro H locs ls hR hz hL hl
  have eas : ts ((2, a) :: as') = Value.ref a.toNat :: ts as' := by
    show tv (2, a) :: ts as' = _
    rw [tv2 h0]
  have hp : PreS z H (Pq E ((2, a) :: as') S G) (Value.ref a.toNat :: ts as') := ⟨blind _ _ _ _, fun U hU hW => ⟨by rw [eas], hK.warm hW, by rw [hU]; exact hR⟩⟩
  have cb := va_cnB (R := rm_ d mc ms) (rm := rm_ d' mc' ms') (mc := mc') (ms := ms') (bytes := M'.2.1) (maxL := M'.2.2.1) (ret := M'.2.2.2) n hts (wsy_good hG h1) rfl rfl rfl (hK.2.2.2.1.1 _ h2) (hts _ h1.2.1) ⟨h1.2.2.1, h1.2.2.2.1, h1.2.2.2.2.1⟩ ⟨hd, by show 8 + (M'.2.2.1 + 11) + 100 * d' ≤ 100 * d; have := h1.2.2.2.2.2; omega⟩
  rw [h5] at cb
  refine run_go (va_runIN (As := ts as') (rest := ts st) ⟨hx, hb, hml, hown, hts⟩ hc ⟨cb, h3, hts _ h4⟩ hp rfl (by rw [← hn]; exact List.length_map ..) hl.1 ?_ (lv_room (by rw [sc_ok]; exact hsc)) (fd_dec hP hf) ⟨hmc, hms⟩) hz hL (fun r S' G' H1 locs1 hY hR1 hz1 hL1 => ?_)
  · show ts stk = _
    rw [hstk, ts_app, ts_rev]
    show _ ++ tv (2, a) :: ts st = _
    rw [tv2 h0]
  · have := k r S' G' hY H1 locs1 ls hR1 hz1 hL1 hl
    rw [ts_app] at this
    exact this
end RUN
