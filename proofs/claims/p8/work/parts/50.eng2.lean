/-! THE ENGINE, SECOND PART: references by labels; what a method may change, by label and field -/
section RU2
variable {E : En} {M : Mk} {as : List Vl} {d mc ms : Nat} {Y : Option Vl → Sg → Gh → Prop} {X : Xp} {cs ss : Nat} {S : Sg} {G : Gh} {P : Cod} {pc tgt idx : Nat} {st : List Vl} {lo : Lo} {x y off a L : Int}
def inm : List (Int × Int) → Int → Int → Bool
  | [], _, _ => false
  | q :: r, L, j => (q.1 == L && (q.2 == -1 || q.2 == j)) || inm r L j
/-- numbers of the heap, but those of the listed fields (label, field; -1: all of the label) -/
def hw (ws : List (Int × Int)) (G G1 : Gh) : Gh := fun L a j => if inm ws L j then G1 L a j else G L a j
theorem hw_refl (ws : List (Int × Int)) (G : Gh) : G = hw ws G G := by
  funext L a j
  unfold hw
  split <;> rfl
theorem hw_up {ws : List (Int × Int)} {G0 G1 : Gh} {L a j v : Int} (h : G1 = hw ws G0 G1) (c : inm ws L j = true) : up G1 L a j v = hw ws G0 (up G1 L a j v) := by
  funext L' a' j'
  unfold hw
  split
  · rfl
  · rename_i hn
    by_cases e : L' = L ∧ a' = a ∧ j' = j
    · obtain ⟨rfl, rfl, rfl⟩ := e
      exact absurd c hn
    · rw [up_ne e, congrFun (congrFun (congrFun h L') a') j']
      unfold hw
      rw [if_neg hn]
theorem inm_iff {ws : List (Int × Int)} {L j : Int} : inm ws L j = true ↔ ∃ q ∈ ws, q.1 = L ∧ (q.2 = -1 ∨ q.2 = j) := by
  induction ws with
  | nil => simp [inm]
  | cons q r ih =>
    unfold inm
    rw [Bool.or_eq_true, ih]
    simp only [Bool.and_eq_true, Bool.or_eq_true, beq_iff_eq, List.mem_cons, exists_eq_or_imp]
def cov (ws : List (Int × Int)) (q : Int × Int) : Bool := ws.any (fun p => p.1 == q.1 && (p.2 == -1 || p.2 == q.2))
theorem cov_in {ws ws' : List (Int × Int)} (c : ws'.all (cov ws) = true) {L j : Int} (h : inm ws' L j = true) : inm ws L j = true := by
  obtain ⟨q, hq, e1, e2⟩ := inm_iff.mp h
  have h1 := List.all_eq_true.mp c q hq
  unfold cov at h1
  obtain ⟨p, hp, h2⟩ := List.any_eq_true.mp h1
  simp only [Bool.and_eq_true, Bool.or_eq_true, beq_iff_eq] at h2
  refine inm_iff.mpr ⟨p, hp, h2.1.trans e1, ?_⟩
  rcases h2.2 with h3 | h3
  · exact Or.inl h3
  · rw [h3]; exact e2
theorem hw_sub {ws ws' : List (Int × Int)} {G0 G1 G2 : Gh} (h : G1 = hw ws G0 G1) (c : ws'.all (cov ws) = true) : hw ws' G1 G2 = hw ws G0 (hw ws' G1 G2) := by
  funext L a j
  show _ = (if inm ws L j = true then hw ws' G1 G2 L a j else G0 L a j)
  split
  · rfl
  · rename_i hn
    show (if inm ws' L j = true then G2 L a j else G1 L a j) = _
    rw [if_neg (fun q => hn (cov_in c q)), congrFun (congrFun (congrFun h L) a) j]
    unfold hw
    rw [if_neg hn]
theorem hw_base (ws : List (Int × Int)) (G0 G1 : Gh) : hw ws G0 G1 = hw ws G0 (hw ws G0 G1) := by
  funext L a j
  unfold hw
  split <;> rfl
theorem hw_out {ws : List (Int × Int)} {G G1 : Gh} {L a j : Int} (h : inm ws L j = false) : hw ws G G1 L a j = G L a j := by
  unfold hw
  rw [h]
  rfl
/-- a field that may hold null -/
theorem r_getN (hX : Cl E M as d mc ms Y X) (hP : Dec M.2.1 P) (hf : fd P pc = some (.getfield idx, 3)) {j : Nat} {L2 h : Int} (hF : Fl M.1.cls idx L j (3, L2, h)) (hS : S a = L) (k : ∀ v : Int, v = G L a j → (v = -1 ∨ S v = L2) → X cs ss (pc + 3) ((2, v) :: st) lo S G) : X cs ss pc ((2, a) :: st) lo S G :=
  r_get hX hP hf hF hS (fun o => r_eq hX (st' := (2, G L a j) :: st) rfl rfl (k _ rfl (o.imp id And.left)))
theorem r_get5 (hX : Cl E M as d mc ms Y X) (hP : Dec M.2.1 P) (hf : fd P pc = some (.getfield idx, 3)) {j : Nat} {l h : Int} (hF : Fl M.1.cls idx L j (5, l, h)) (hS : S a = L) (k : ∀ v : Int, v = G L a j → (v = Ad E 0 ∨ (l ≤ S v ∧ S v ≤ h)) → X cs ss (pc + 3) ((2, v) :: st) lo S G) : X cs ss pc ((2, a) :: st) lo S G :=
  r_get hX hP hf hF hS (fun o => r_eq hX (st' := (2, G L a j) :: st) rfl rfl (k _ rfl (o.imp id (fun q => ⟨q.1, q.2.1⟩))))
theorem r_getKR (hX : Cl E M as d mc ms Y X) (hP : Dec M.2.1 P) (hf : fd P pc = some (.getfield idx, 3)) {j : Nat} {l h : Int} (hF : Fl M.1.cls idx L j (2, l, h)) (hS : S a = L) (hk : x = G L a j) (k : X cs ss (pc + 3) ((2, x) :: st) lo S G) : X cs ss pc ((2, a) :: st) lo S G :=
  r_get hX hP hf hF hS (fun _ => hk ▸ k)
theorem r_getKN (hX : Cl E M as d mc ms Y X) (hP : Dec M.2.1 P) (hf : fd P pc = some (.getfield idx, 3)) {j : Nat} {l h : Int} (hF : Fl M.1.cls idx L j (3, l, h)) (hS : S a = L) (hk : x = G L a j) (k : X cs ss (pc + 3) ((2, x) :: st) lo S G) : X cs ss pc ((2, a) :: st) lo S G :=
  r_get hX hP hf hF hS (fun _ => r_eq hX (st' := (2, x) :: st) (by rw [hk]; rfl) rfl k)
theorem r_getK5 (hX : Cl E M as d mc ms Y X) (hP : Dec M.2.1 P) (hf : fd P pc = some (.getfield idx, 3)) {j : Nat} {l h : Int} (hF : Fl M.1.cls idx L j (5, l, h)) (hS : S a = L) (hk : x = G L a j) (k : X cs ss (pc + 3) ((2, x) :: st) lo S G) : X cs ss pc ((2, a) :: st) lo S G :=
  r_get hX hP hf hF hS (fun _ => r_eq hX (st' := (2, x) :: st) (by rw [hk]; rfl) rfl k)
/-- arrays of references -/
theorem r_aald0 (hX : Cl E M as d mc ms Y X) (hP : Dec M.2.1 P) (hf : fd P pc = some (.aaload, 1)) {t n : Nat} {b : Ty} {i : Int} (hA : Al L t n b) (ht : (aty t).isReference = true) (hS : S a = L) (i1 : 0 ≤ i) (i2 : i < n) (k : okv E S b (G L a i) → X cs ss (pc + 1) ((b.1, G L a i) :: st) lo S G) : X cs ss pc ((0, i) :: (2, a) :: st) lo S G := by
  obtain ⟨p, e, z, m, below, meth, c, hx, hb, hr, hml, hown, hlk, hnm, hts, hK, rfl⟩ := hX
  intro H locs ls hR hz hL hl
  obtain ⟨ha, hb0, hc, ho⟩ := arr_at hR hA hS
  obtain ⟨q1, q2⟩ := ix_in i1 i2 hA.2.2
  have hi : ((i.toNat : Nat) : Int) = i := by omega
  have hv := ho i.toNat (by first | decide | omega)
  rw [hi] at hv
  have k := k hv H locs ls hR hz hL hl
  simp only [ts, List.map_cons] at k ⊢
  rw [tv2 ha, tv0]
  refine W.aald (v := tv (b.1, G L a i)) hx hb hc (hK.2.1 t n (fun j => tv (b.1, G L a j))) ht (fun q => by cases q) (by rw [arrV_size]; exact q1) (by rw [q2, arrV_read _ _ (by first | decide | omega), hi]) rfl rfl (fd_dec hP hf) k
theorem r_aald (hX : Cl E M as d mc ms Y X) (hP : Dec M.2.1 P) (hf : fd P pc = some (.aaload, 1)) {t n : Nat} {L2 h i : Int} (hA : Al L t n (2, L2, h)) (ht : (aty t).isReference = true) (hS : S a = L) (i1 : 0 ≤ i) (i2 : i < n) (k : ∀ v : Int, v = G L a i → S v = L2 → X cs ss (pc + 1) ((2, v) :: st) lo S G) : X cs ss pc ((0, i) :: (2, a) :: st) lo S G :=
  r_aald0 hX hP hf hA ht hS i1 i2 (fun o => k _ rfl o.1)
theorem r_aaldK (hX : Cl E M as d mc ms Y X) (hP : Dec M.2.1 P) (hf : fd P pc = some (.aaload, 1)) {t n : Nat} {L2 h i : Int} (hA : Al L t n (2, L2, h)) (ht : (aty t).isReference = true) (hS : S a = L) (i1 : 0 ≤ i) (i2 : i < n) (hk : x = G L a i) (k : X cs ss (pc + 1) ((2, x) :: st) lo S G) : X cs ss pc ((0, i) :: (2, a) :: st) lo S G :=
  r_aald0 hX hP hf hA ht hS i1 i2 (fun _ => hk ▸ k)
theorem r_aaldN (hX : Cl E M as d mc ms Y X) (hP : Dec M.2.1 P) (hf : fd P pc = some (.aaload, 1)) {t n : Nat} {L2 h i : Int} (hA : Al L t n (3, L2, h)) (ht : (aty t).isReference = true) (hS : S a = L) (i1 : 0 ≤ i) (i2 : i < n) (k : ∀ v : Int, v = G L a i → (v = -1 ∨ S v = L2) → X cs ss (pc + 1) ((2, v) :: st) lo S G) : X cs ss pc ((0, i) :: (2, a) :: st) lo S G :=
  r_aald0 hX hP hf hA ht hS i1 i2 (fun o => r_eq hX (st' := (2, G L a i) :: st) rfl rfl (k _ rfl (o.imp id And.left)))
/-- an object's class -/
theorem obj_at {H : Heap} {z : State} {ci N : Nat} {fs : List Ty} {C : String} {T : u_T} (hK : Kw E z) (hR : rep E S G H) (h1 : lbls[L.toNat]? = some (.inl (ci, fs))) (h2 : L ≠ 0) (h3 : vwCl[ci]? = some (C, T, N)) (hS : S a = L) : 0 ≤ a ∧ ∃ cell : Cell, H[a.toNat]? = some cell ∧ cell.vm.isStatics = false ∧ z.vm.findClass C = some cell.cls := by
  obtain ⟨ha, hb0, hcc⟩ := rep_at hR hS h2
  unfold cel at hcc
  rw [h1] at hcc
  obtain ⟨⟨cell, c1, c2, c3, c4⟩, c5⟩ := hcc
  obtain ⟨hSl, hfc, kC, hkC, hkind⟩ := hK.1.1 ci _ h3
  exact ⟨ha, cell, c1, by rw [c3]; rfl, by rw [c2]; exact hfc⟩
def Ck (L : Int) (nm : String) : Prop := ∃ (ci N : Nat) (fs : List Ty) (C : String) (T : u_T), lbls[L.toNat]? = some (.inl (ci, fs)) ∧ L ≠ 0 ∧ vwCl[ci]? = some (C, T, N) ∧ (C = nm ∨ Cond.castable C nm ∈ xwl)
theorem r_cast (hX : Cl E M as d mc ms Y X) (hP : Dec M.2.1 P) (hf : fd P pc = some (.checkcast idx, 3)) {nm : String} (w1 : Cond.classLink M.1.cls idx nm ∈ tb) (hc : Ck L nm) (hS : S a = L) (k : X cs ss (pc + 3) ((2, a) :: st) lo S G) : X cs ss pc ((2, a) :: st) lo S G := by
  obtain ⟨p, e, z, m, below, meth, c, hx, hb, hr, hml, hown, hlk, hnm, hts, hK, rfl⟩ := hX
  obtain ⟨ci, N, fs, C, T, h1, h2, h3, h4⟩ := hc
  intro H locs ls hR hz hL hl
  obtain ⟨ha, hcell⟩ := obj_at hK hR h1 h2 h3 hS
  have k := k H locs ls hR hz hL hl
  simp only [ts, List.map_cons] at k ⊢
  rw [tv2 ha] at k ⊢
  rcases h4 with h4 | h4
  · subst h4
    exact va_castE hx hb hown (hts _ w1) hcell (fd_dec hP hf) k
  · exact va_castY hx hb hown (hts _ w1) (hK.2.2.2.1.1 _ h4) hcell (fd_dec hP hf) k
theorem r_ifnn (hX : Cl E M as d mc ms Y X) (hP : Dec M.2.1 P) (hf : fd P pc = some (.ifnonnull off, 3)) (ht : (pc : Int) + off = (tgt : Int)) (kt : 0 ≤ x → X cs ss tgt st lo S G) (kf : x < 0 → X cs ss (pc + 3) st lo S G) : X cs ss pc ((2, x) :: st) lo S G := by
  obtain ⟨p, e, z, m, below, meth, c, hx, hb, hr, hml, hown, hlk, hnm, hts, hK, rfl⟩ := hX
  intro H locs ls hR hz hL hl
  simp only [ts, List.map_cons]
  by_cases h : x < 0
  · rw [tv2n h]
    exact lv_ifnonnullN hx hb (fd_dec hP hf) (kf h H locs ls hR hz hL hl)
  · rw [tv2 (by first | decide | omega)]
    exact lv_ifnonnull hx hb (fd_dec hP hf) ht (kt (by first | decide | omega) H locs ls hR hz hL hl)
theorem r_ifnu (hX : Cl E M as d mc ms Y X) (hP : Dec M.2.1 P) (hf : fd P pc = some (.ifnull off, 3)) (ht : (pc : Int) + off = (tgt : Int)) (kt : x < 0 → X cs ss tgt st lo S G) (kf : 0 ≤ x → X cs ss (pc + 3) st lo S G) : X cs ss pc ((2, x) :: st) lo S G := by
  obtain ⟨p, e, z, m, below, meth, c, hx, hb, hr, hml, hown, hlk, hnm, hts, hK, rfl⟩ := hX
  intro H locs ls hR hz hL hl
  simp only [ts, List.map_cons]
  by_cases h : x < 0
  · rw [tv2n h]
    exact lv_ifnullN hx hb (fd_dec hP hf) ht (kt h H locs ls hR hz hL hl)
  · rw [tv2 (by first | decide | omega)]
    exact lv_ifnull hx hb (fd_dec hP hf) (kf (by first | decide | omega) H locs ls hR hz hL hl)
/-- a nest mate's private field -/
def FlN (own : String) (idx : Nat) (L : Int) (j : Nat) (t : Ty) : Prop := ∃ (ci N : Nat) (fs : List Ty) (C : String) (T : u_T) (host : String), lbls[L.toNat]? = some (.inl (ci, fs)) ∧ fs.length = N ∧ j < N ∧ fs.getD j (0, 0, 0) = t ∧ L ≠ 0 ∧ vwCl[ci]? = some (C, T, N) ∧ Cf ci N ∧ Cond.fieldLinkNest own idx (T j).1 (T j).2.1 (T j).2.2.1 host ∈ xwl
theorem r_nget (hX : Cl E M as d mc ms Y X) (hP : Dec M.2.1 P) (hf : fd P pc = some (.getfield idx, 3)) {j : Nat} {t : Ty} (hF : FlN M.1.cls idx L j t) (hS : S a = L) (k : okv E S t (G L a j) → X cs ss (pc + 3) ((t.1, G L a j) :: st) lo S G) : X cs ss pc ((2, a) :: st) lo S G := by
  obtain ⟨p, e, z, m, below, meth, c, hx, hb, hr, hml, hown, hlk, hnm, hts, hK, rfl⟩ := hX
  obtain ⟨ci, N, fs, C, T, host, f1, f2, f3, f4, f5, f6, f7, f8⟩ := hF
  intro H locs ls hR hz hL hl
  obtain ⟨ha, hb0, hc⟩ := rep_at hR hS f5
  unfold cel at hc
  rw [f1] at hc
  obtain ⟨⟨cell, c1, c2, c3, c4⟩, c5⟩ := hc
  have hv := c5 j (by first | decide | omega)
  rw [f4] at hv
  have k := k hv H locs ls hR hz hL hl
  obtain ⟨w1, -, -⟩ := f7.tw f6
  obtain ⟨hSl, hfc, kC, hkC, hkind⟩ := hK.1.1 ci _ f6
  obtain ⟨cf, kf, fi, f, hi, hsl⟩ := hSl j f3
  simp only [ts, List.map_cons] at k ⊢
  rw [tv2 ha]
  refine va_Wgetf hx hb hown (va_Nw.use rfl (hK.2.2.2.1.1 _ f8)) hi (u_facts hfc hkC (u_lays hts w1 f3) hi).1 c1 (by rw [c3]; exact fun h => by cases h) (v := tv (t.1, G L a j)) ?_ rfl rfl (fd_dec hP hf) k
  rw [hsl, c4 j (by first | decide | omega)]
  show some (tv ((fs.getD j (0, 0, 0)).1, G L a j)) = _
  rw [f4]
theorem r_ngetI (hX : Cl E M as d mc ms Y X) (hP : Dec M.2.1 P) (hf : fd P pc = some (.getfield idx, 3)) {j : Nat} {l h : Int} (hF : FlN M.1.cls idx L j (0, l, h)) (hS : S a = L) (k : ∀ v : Int, v = G L a j → l ≤ v → v ≤ h → X cs ss (pc + 3) ((0, v) :: st) lo S G) : X cs ss pc ((2, a) :: st) lo S G :=
  r_nget hX hP hf hF hS (fun o => k _ rfl o.1 o.2)
theorem r_ngetR (hX : Cl E M as d mc ms Y X) (hP : Dec M.2.1 P) (hf : fd P pc = some (.getfield idx, 3)) {j : Nat} {L2 h : Int} (hF : FlN M.1.cls idx L j (2, L2, h)) (hS : S a = L) (k : ∀ v : Int, v = G L a j → S v = L2 → X cs ss (pc + 3) ((2, v) :: st) lo S G) : X cs ss pc ((2, a) :: st) lo S G :=
  r_nget hX hP hf hF hS (fun o => k _ rfl o.1)
theorem r_ngetKR (hX : Cl E M as d mc ms Y X) (hP : Dec M.2.1 P) (hf : fd P pc = some (.getfield idx, 3)) {j : Nat} {l h : Int} (hF : FlN M.1.cls idx L j (2, l, h)) (hS : S a = L) (hk : x = G L a j) (k : X cs ss (pc + 3) ((2, x) :: st) lo S G) : X cs ss pc ((2, a) :: st) lo S G :=
  r_nget hX hP hf hF hS (fun _ => hk ▸ k)
/-- a call of an inherited method; its object's label L; x: the method as it is named there -/
def Cu (own : String) (idx : Nat) (M' : Mk) (x : MethodName) (L : Int) (n : Nat) : Prop := Co M' n ∧ M'.1 = ⟨M'.1.cls, x.name, x.desc⟩ ∧ ∃ (ci N : Nat) (fs : List Ty) (C : String) (T : u_T), lbls[L.toNat]? = some (.inl (ci, fs)) ∧ L ≠ 0 ∧ vwCl[ci]? = some (C, T, N) ∧ ∀ w ∈ va_wsU own idx C M'.1.cls x M'.1 [], w ∈ tb
theorem r_callU (hG : Gd) (hX : Cl E M as d mc ms Y X) (hP : Dec M.2.1 P) (hf : fd P pc = some (.invokevirtual idx, 3)) {M' : Mk} {nm : MethodName} {n d' mc' ms' : Nat} {as' : List Vl} {stk : List Vl} {Y' : Option Vl → Sg → Gh → Prop} (hC : Cu M.1.cls idx M' nm L n) (hS : S a = L) (hd : d' + 1 ≤ d) (hmc : cs + mc' ≤ mc) (hms : ss + ms' ≤ ms) (hn : as'.length = n) (hstk : stk = as'.reverse ++ (2, a) :: st) (hsc : sc st ≤ 8)
    (hc : Calls E M' ((2, a) :: as') S G d' mc' ms' Y') (k : ∀ r S' G', Y' r S' G' → X (cs + mc') (ss + ms') (pc + 3) (r.toList ++ st) lo S' G') : X cs ss pc stk lo S G := by
  obtain ⟨p, e, z, m, below, meth, c, hx, hb, hr, hml, hown, hlk, hnm, hts, hK, rfl⟩ := hX
  obtain ⟨h1, h0, ci, N, fs, C, T, h4, h5, h6, h7⟩ := hC
  intro H locs ls hR hz hL hl
  obtain ⟨ha, hcell⟩ := obj_at hK hR h4 h5 h6 hS
  have eas : ts ((2, a) :: as') = Value.ref a.toNat :: ts as' := by
    show tv (2, a) :: ts as' = _
    rw [tv2 ha]
  have hp : PreV z H C a.toNat (Pq E ((2, a) :: as') S G) (ts as') := ⟨blind _ _ _ _, hcell, fun U hU hW => ⟨by rw [eas], hK.warm hW, by rw [hU]; exact hR⟩⟩
  have hgd : GoodIn tb (va_wsU M.1.cls idx C M'.1.cls nm M'.1 (wsy M')) := by
    intro w hw
    refine hG w ?_
    rcases List.mem_append.mp hw with h | h
    · exact h7 w (List.mem_append_left _ h)
    · rcases List.mem_cons.mp h with h | h
      · rw [h]; exact h1.1
      · exact h
  have hpar : (parseMethodDescriptor nm.desc).map (fun d => d.parameters.length) = some n := by
    have := h1.2.2.2.2.1
    rw [h0] at this
    exact this
  refine run_go (va_runU (As := ts as') (rest := ts st) ⟨hx, hb, hml, hown, hts⟩ hc (va_cwU (bytes := M'.2.1) (maxL := M'.2.2.1) (ret := M'.2.2.2) n hts hgd rfl rfl rfl h0 ⟨h1.2.2.1, h1.2.2.2.1, hpar⟩ ⟨hd, by show 8 + (M'.2.2.1 + 11) + 100 * d' ≤ 100 * d; have := h1.2.2.2.2.2; omega⟩) hp rfl (by rw [← hn]; exact List.length_map ..) hl.1 ?_ (lv_room (by rw [sc_ok]; exact hsc)) (fd_dec hP hf) ⟨hmc, hms⟩) hz hL (fun r S' G' H1 locs1 hY hR1 hz1 hL1 => ?_)
  · show ts stk = _
    rw [hstk, ts_app, ts_rev]
    show _ ++ tv (2, a) :: ts st = _
    rw [tv2 ha]
  · have := k r S' G' hY H1 locs1 ls hR1 hz1 hL1 hl
    rw [ts_app] at this
    exact this
end RU2
