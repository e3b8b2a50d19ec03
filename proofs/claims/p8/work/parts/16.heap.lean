section RUH
variable {E : En} {M : Mk} {as : List Vl} {d mc ms : Nat} {Y : Option Vl → Sg → Gh → Prop} {X : Xp} {cs ss : Nat} {S : Sg} {G : Gh} {P : Cod} {pc tgt idx : Nat} {st : List Vl} {lo : Lo} {x y off a L : Int}
/-- one place of the heap's numbers changed -/
def up (G : Gh) (L a j v : Int) : Gh := fun L' a' j' => if L' = L ∧ j' = j ∧ a' = a then v else G L' a' j'
theorem up_self (G : Gh) (L a j v : Int) : up G L a j v L a j = v := if_pos ⟨rfl, rfl, rfl⟩
theorem up_ne {G : Gh} {L a j v L' a' j' : Int} (h : ¬ (L' = L ∧ a' = a ∧ j' = j)) : up G L a j v L' a' j' = G L' a' j' := if_neg (fun q => h ⟨q.1, q.2.2, q.2.1⟩)
/-- what a class's words give -/
def Cf (ci N : Nat) : Prop := ∃ (C : String) (T : u_T) (ty : Nat → FieldType), vwCl[ci]? = some (C, T, N) ∧ (∀ w ∈ u_ws C T N, w ∈ tb) ∧ (∀ k, k < N → parseFieldDescriptor (T k).2.2.1 = some (ty k)) ∧ ∀ a, a < N → ∀ b, b < N → a ≠ b → (T a).2.1 ≠ (T b).2.1
/-- a field, by the label of its object: its place j, what it holds -/
def Fl (own : String) (idx : Nat) (L : Int) (j : Nat) (t : Ty) : Prop := ∃ (ci N : Nat) (fs : List Ty) (C : String) (T : u_T), lbls[L.toNat]? = some (.inl (ci, fs)) ∧ fs.length = N ∧ j < N ∧ fs.getD j (0, 0, 0) = t ∧ L ≠ 0 ∧ vwCl[ci]? = some (C, T, N) ∧ Cf ci N ∧ Cond.fieldLink own idx (T j).1 (T j).2.1 (T j).2.2.1 ∈ tb
theorem Cf.tw {ci N : Nat} {C : String} {T : u_T} (h : Cf ci N) (hc : vwCl[ci]? = some (C, T, N)) : (∀ w ∈ u_ws C T N, w ∈ tb) ∧ (∃ ty : Nat → FieldType, ∀ k, k < N → parseFieldDescriptor (T k).2.2.1 = some (ty k)) ∧ ∀ a, a < N → ∀ b, b < N → a ≠ b → (T a).2.1 ≠ (T b).2.1 := by
  obtain ⟨C', T', ty, h1, h2, h3, h4⟩ := h
  cases h1.symm.trans hc
  exact ⟨h2, ⟨ty, h3⟩, h4⟩
theorem rep_at {H : Heap} (h : rep E S G H) (hS : S a = L) (hL : L ≠ 0) : 0 ≤ a ∧ E.2.2.2.1 ≤ a.toNat ∧ cel E S G H L a := by
  have := h.2.2 a (by rw [hS]; exact hL)
  rw [hS] at this
  exact this
theorem r_get (hX : Cl E M as d mc ms Y X) (hP : Dec M.2.1 P) (hf : fd P pc = some (.getfield idx, 3)) {j : Nat} {t : Ty} (hF : Fl M.1.cls idx L j t) (hS : S a = L) (k : okv E S t (G L a j) → X cs ss (pc + 3) ((t.1, G L a j) :: st) lo S G) : X cs ss pc ((2, a) :: st) lo S G := by
  obtain ⟨p, e, z, m, below, meth, c, hx, hb, hr, hml, hown, hlk, hnm, hts, hK, rfl⟩ := hX
  obtain ⟨ci, N, fs, C, T, f1, f2, f3, f4, f5, f6, f7, f8⟩ := hF
  intro H locs ls hR hz hL hl
  obtain ⟨ha, hb0, hc⟩ := rep_at hR hS f5
  unfold cel at hc
  rw [f1] at hc
  obtain ⟨⟨cell, c1, c2, c3, c4⟩, c5⟩ := hc
  have hv := c5 j (by omega)
  rw [f4] at hv
  have k := k hv H locs ls hR hz hL hl
  obtain ⟨w1, -, -⟩ := f7.tw f6
  obtain ⟨hSl, hfc, kC, hkC, hkind⟩ := hK.1.1 ci _ f6
  obtain ⟨cf, kf, fi, f, hi, hsl⟩ := hSl j f3
  simp only [ts, List.map_cons] at k ⊢
  rw [tv2 ha]
  refine W.getf hx hb hown (hts _ f8) hi (u_facts hfc hkC (u_lays hts w1 f3) hi).1 c1 (by rw [c3]; exact fun h => by cases h) (v := tv (t.1, G L a j)) ?_ rfl rfl (fd_dec hP hf) k
  rw [hsl, c4 j (by omega)]
  show some (tv ((fs.getD j (0, 0, 0)).1, G L a j)) = _
  rw [f4]
theorem r_getI (hX : Cl E M as d mc ms Y X) (hP : Dec M.2.1 P) (hf : fd P pc = some (.getfield idx, 3)) {j : Nat} {l h : Int} (hF : Fl M.1.cls idx L j (0, l, h)) (hS : S a = L) (k : ∀ v : Int, v = G L a j → l ≤ v → v ≤ h → X cs ss (pc + 3) ((0, v) :: st) lo S G) : X cs ss pc ((2, a) :: st) lo S G :=
  r_get hX hP hf hF hS (fun o => k _ rfl o.1 o.2)
theorem r_getL (hX : Cl E M as d mc ms Y X) (hP : Dec M.2.1 P) (hf : fd P pc = some (.getfield idx, 3)) {j : Nat} {l h : Int} (hF : Fl M.1.cls idx L j (1, l, h)) (hS : S a = L) (k : ∀ v : Int, v = G L a j → l ≤ v → v ≤ h → X cs ss (pc + 3) ((1, v) :: st) lo S G) : X cs ss pc ((2, a) :: st) lo S G :=
  r_get hX hP hf hF hS (fun o => k _ rfl o.1 o.2)
theorem r_getR (hX : Cl E M as d mc ms Y X) (hP : Dec M.2.1 P) (hf : fd P pc = some (.getfield idx, 3)) {j : Nat} {L2 h : Int} (hF : Fl M.1.cls idx L j (2, L2, h)) (hS : S a = L) (k : ∀ v : Int, v = G L a j → S v = L2 → X cs ss (pc + 3) ((2, v) :: st) lo S G) : X cs ss pc ((2, a) :: st) lo S G :=
  r_get hX hP hf hF hS (fun o => k _ rfl o.1)
theorem tv4 (x : Int) : tv (4, x) = tv (2, x) := rfl
theorem tv3 (x : Int) : tv (3, x) = tv (2, x) := rfl
/-- a field that holds one place for good -/
theorem r_getC (hX : Cl E M as d mc ms Y X) (hP : Dec M.2.1 P) (hf : fd P pc = some (.getfield idx, 3)) {j : Nat} {L2 h : Int} (hF : Fl M.1.cls idx L j (4, L2, h)) (hS : S a = L) (k : S (Ad E L2) = L2 → X cs ss (pc + 3) ((2, Ad E L2) :: st) lo S G) : X cs ss pc ((2, a) :: st) lo S G :=
  r_get hX hP hf hF hS (fun o => r_eq hX (st' := (2, Ad E L2) :: st) (by show tv (4, G L a j) :: ts st = tv (2, Ad E L2) :: ts st; rw [tv4, o.1]) rfl (k (by rw [← o.1]; exact o.2.1)))
/-- arrays -/
def Al (L : Int) (t n : Nat) (y : Ty) : Prop := lbls[L.toNat]? = some (.inr (t, n, y)) ∧ L ≠ 0 ∧ n < 2147483648
theorem ix_in {i : Int} {n : Nat} (h1 : 0 ≤ i) (h2 : i < n) (hn : n < 2147483648) : ¬ (Int32.ofInt i < 0 ∨ n ≤ (Int32.ofInt i).toNatClampNeg) ∧ (Int32.ofInt i).toNatClampNeg = i.toNat := by
  have e : (Int32.ofInt i).toInt = i := i32t (by omega) (by omega)
  have e2 : (Int32.ofInt i).toNatClampNeg = i.toNat := by
    show (Int32.ofInt i).toInt.toNat = _
    rw [e]
  refine ⟨?_, e2⟩
  rw [e2, Int32.lt_iff_toInt_lt, e]
  simp only [Int32.toInt_zero]
  omega
theorem arr_at {H : Heap} {t n : Nat} {y : Ty} (hR : rep E S G H) (hA : Al L t n y) (hS : S a = L) : 0 ≤ a ∧ E.2.2.2.1 ≤ a.toNat ∧ H[a.toNat]? = some (arrV (E.2.2.1 t) n (fun j => tv (y.1, G L a j))) ∧ ∀ j : Nat, j < n → okv E S y (G L a j) := by
  obtain ⟨h1, h2, h3⟩ := rep_at hR hS hA.2.1
  unfold cel at h3
  rw [hA.1] at h3
  exact ⟨h1, h2, h3⟩
theorem r_iald (hX : Cl E M as d mc ms Y X) (hP : Dec M.2.1 P) (hf : fd P pc = some (.iaload, 1)) {n : Nat} {l h i : Int} (hA : Al L 0 n (0, l, h)) (hS : S a = L) (i1 : 0 ≤ i) (i2 : i < n) (k : ∀ v : Int, v = G L a i → l ≤ v → v ≤ h → X cs ss (pc + 1) ((0, v) :: st) lo S G) : X cs ss pc ((0, i) :: (2, a) :: st) lo S G := by
  obtain ⟨p, e, z, m, below, meth, c, hx, hb, hr, hml, hown, hlk, hnm, hts, hK, rfl⟩ := hX
  intro H locs ls hR hz hL hl
  obtain ⟨ha, hb0, hc, ho⟩ := arr_at hR hA hS
  obtain ⟨q1, q2⟩ := ix_in i1 i2 hA.2.2
  have hi : ((i.toNat : Nat) : Int) = i := by omega
  have hv := ho i.toNat (by omega)
  rw [hi] at hv
  have k := k _ rfl hv.1 hv.2 H locs ls hR hz hL hl
  simp only [ts, List.map_cons] at k ⊢
  rw [tv2 ha, tv0]
  refine W.iald (v := tv (0, G L a i)) hx hb hc (hK.2.1 0 n (fun j => tv (0, G L a j))) (fun q => by cases q) (by rw [arrV_size]; exact q1) (by rw [q2, arrV_read _ _ (by omega), hi]) rfl rfl (fd_dec hP hf) k
theorem r_lald (hX : Cl E M as d mc ms Y X) (hP : Dec M.2.1 P) (hf : fd P pc = some (.laload, 1)) {n : Nat} {l h i : Int} (hA : Al L 1 n (1, l, h)) (hS : S a = L) (i1 : 0 ≤ i) (i2 : i < n) (k : ∀ v : Int, v = G L a i → l ≤ v → v ≤ h → X cs ss (pc + 1) ((1, v) :: st) lo S G) : X cs ss pc ((0, i) :: (2, a) :: st) lo S G := by
  obtain ⟨p, e, z, m, below, meth, c, hx, hb, hr, hml, hown, hlk, hnm, hts, hK, rfl⟩ := hX
  intro H locs ls hR hz hL hl
  obtain ⟨ha, hb0, hc, ho⟩ := arr_at hR hA hS
  obtain ⟨q1, q2⟩ := ix_in i1 i2 hA.2.2
  have hi : ((i.toNat : Nat) : Int) = i := by omega
  have hv := ho i.toNat (by omega)
  rw [hi] at hv
  have k := k _ rfl hv.1 hv.2 H locs ls hR hz hL hl
  simp only [ts, List.map_cons] at k ⊢
  rw [tv2 ha, tv0]
  refine W.lald (v := tv (1, G L a i)) hx hb hc (hK.2.1 1 n (fun j => tv (1, G L a j))) (fun q => by cases q) (by rw [arrV_size]; exact q1) (by rw [q2, arrV_read _ _ (by omega), hi]) rfl rfl (fd_dec hP hf) k
theorem r_bald (hX : Cl E M as d mc ms Y X) (hP : Dec M.2.1 P) (hf : fd P pc = some (.baload, 1)) {n : Nat} {l h i : Int} (hA : Al L 2 n (0, l, h)) (hS : S a = L) (i1 : 0 ≤ i) (i2 : i < n) (k : ∀ v : Int, v = G L a i → l ≤ v → v ≤ h → X cs ss (pc + 1) ((0, v) :: st) lo S G) : X cs ss pc ((0, i) :: (2, a) :: st) lo S G := by
  obtain ⟨p, e, z, m, below, meth, c, hx, hb, hr, hml, hown, hlk, hnm, hts, hK, rfl⟩ := hX
  intro H locs ls hR hz hL hl
  obtain ⟨ha, hb0, hc, ho⟩ := arr_at hR hA hS
  obtain ⟨q1, q2⟩ := ix_in i1 i2 hA.2.2
  have hi : ((i.toNat : Nat) : Int) = i := by omega
  have hv := ho i.toNat (by omega)
  rw [hi] at hv
  have k := k _ rfl hv.1 hv.2 H locs ls hR hz hL hl
  simp only [ts, List.map_cons] at k ⊢
  rw [tv2 ha, tv0]
  refine W.bald (v := tv (0, G L a i)) hx hb hc (hK.2.1 2 n (fun j => tv (0, G L a j))) (fun q => by cases q) (by rw [arrV_size]; exact q1) (by rw [q2, arrV_read _ _ (by omega), hi]) rfl rfl (fd_dec hP hf) k
theorem r_zald (hX : Cl E M as d mc ms Y X) (hP : Dec M.2.1 P) (hf : fd P pc = some (.baload, 1)) {n : Nat} {l h i : Int} (hA : Al L 3 n (0, l, h)) (hS : S a = L) (i1 : 0 ≤ i) (i2 : i < n) (k : ∀ v : Int, v = G L a i → l ≤ v → v ≤ h → X cs ss (pc + 1) ((0, v) :: st) lo S G) : X cs ss pc ((0, i) :: (2, a) :: st) lo S G := by
  obtain ⟨p, e, z, m, below, meth, c, hx, hb, hr, hml, hown, hlk, hnm, hts, hK, rfl⟩ := hX
  intro H locs ls hR hz hL hl
  obtain ⟨ha, hb0, hc, ho⟩ := arr_at hR hA hS
  obtain ⟨q1, q2⟩ := ix_in i1 i2 hA.2.2
  have hi : ((i.toNat : Nat) : Int) = i := by omega
  have hv := ho i.toNat (by omega)
  rw [hi] at hv
  have k := k _ rfl hv.1 hv.2 H locs ls hR hz hL hl
  simp only [ts, List.map_cons] at k ⊢
  rw [tv2 ha, tv0]
  refine W.zald (v := tv (0, G L a i)) hx hb hc (hK.2.1 3 n (fun j => tv (0, G L a j))) (fun q => by cases q) (by rw [arrV_size]; exact q1) (by rw [q2, arrV_read _ _ (by omega), hi]) rfl rfl (fd_dec hP hf) k
theorem r_alen (hX : Cl E M as d mc ms Y X) (hP : Dec M.2.1 P) (hf : fd P pc = some (.arraylength, 1)) {t n : Nat} {y : Ty} (hA : Al L t n y) (hS : S a = L) (k : X cs ss (pc + 1) ((0, (n : Int)) :: st) lo S G) : X cs ss pc ((2, a) :: st) lo S G := by
  obtain ⟨p, e, z, m, below, meth, c, hx, hb, hr, hml, hown, hlk, hnm, hts, hK, rfl⟩ := hX
  intro H locs ls hR hz hL hl
  obtain ⟨ha, hb0, hc, ho⟩ := arr_at hR hA hS
  have k := k H locs ls hR hz hL hl
  simp only [ts, List.map_cons] at k ⊢
  rw [tv2 ha]
  refine W.alen (n := Int32.ofInt n) hx hb hc (hK.2.1 t n (fun j => tv (y.1, G L a j))) (by rw [arrV_size]; rfl) rfl rfl (fd_dec hP hf) k
end RUH
