def ent (k : Nat) : List Vl → Lo
  | [] => []
  | v :: r => (k, v) :: ent (k + (if v.1 = 1 then 2 else 1)) r
theorem tv_cat (v : Vl) : (tv v).category = if v.1 = 1 then 2 else 1 := by
  by_cases h : v.1 = 1
  · rw [if_pos h]; exact tv_cat2 (by simp [t1, h])
  · rw [if_neg h]; exact tv_cat1 (by simp [tn1, h])
theorem ent_ok (as : List Vl) : ∀ k, lv_args k (ts as) = tl (ent k as) := by
  induction as with
  | nil => intro k; rfl
  | cons v r ih =>
    intro k
    show lv_args k (tv v :: ts r) = (k, tv v) :: tl (ent (k + (if v.1 = 1 then 2 else 1)) r)
    rw [← ih]
    show (k, tv v) :: lv_args (if (tv v).category = 2 then k + 2 else k + 1) (ts r) = _
    rw [tv_cat v]
    by_cases h : v.1 = 1
    · rw [if_pos h, if_pos rfl]
    · rw [if_neg h, if_neg (by decide)]
theorem sl_ok (as : List Vl) : (lg_sl (ts as)).length = sc as := by
  induction as with
  | nil => rfl
  | cons v r ih =>
    have e : lg_sl (ts (v :: r)) = (if (tv v).category = 2 then [.val (tv v), .second] else [.val (tv v)]) ++ lg_sl (ts r) := by
      simp only [lg_sl, ts, List.map_cons, List.flatMap_cons]
    rw [e, List.length_append, ih]
    show _ = (if v.1 = 1 then 2 else 1) + sc r
    rw [tv_cat v]
    by_cases h : v.1 = 1 <;> simp [h]
theorem calls_by {E : En} {M : Mk} {as : List Vl} {S : Sg} {G : Gh} {d mc ms : Nat} {Y : Option Vl → Sg → Gh → Prop} (lo : Lo) (hy : plainName M.1.cls = true) (hl : ent 0 as = lo) (hn : sc as ≤ M.2.2.1)
    (h : ∀ X, Cl E M as d mc ms Y X → X 0 0 0 [] lo S G) : Calls E M as S G d mc ms Y := calls_of lo hy (by rw [ent_ok, hl]) (by rw [sl_ok]; exact hn) h
section RUM
variable {E : En} {M : Mk} {as : List Vl} {d mc ms : Nat} {Y : Option Vl → Sg → Gh → Prop} {X : Xp} {cs ss : Nat} {S : Sg} {G : Gh} {P : Cod} {pc tgt idx : Nat} {st : List Vl} {lo : Lo} {x y off a L : Int}
theorem r_ldc (hX : Cl E M as d mc ms Y X) (hP : Dec M.2.1 P) (hf : fd P pc = some (.ldc idx, 2)) {v : Int} (hw : Cond.constant M.1.cls idx (Int32.ofInt v) ∈ tb) (k : X cs ss (pc + 2) ((0, v) :: st) lo S G) : X cs ss pc st lo S G := by
  obtain ⟨p, e, z, m, below, meth, c, hx, hb, hr, hml, hown, hlk, hnm, hts, hK, rfl⟩ := hX
  intro H locs ls hR hz hL hl
  exact lv_ldc hx hb hown (hts _ hw) (fd_dec hP hf) (k H locs ls hR hz hL hl)
theorem r_ldcw (hX : Cl E M as d mc ms Y X) (hP : Dec M.2.1 P) (hf : fd P pc = some (.ldc_w idx, 3)) {v : Int} (hw : Cond.constant M.1.cls idx (Int32.ofInt v) ∈ tb) (k : X cs ss (pc + 3) ((0, v) :: st) lo S G) : X cs ss pc st lo S G := by
  obtain ⟨p, e, z, m, below, meth, c, hx, hb, hr, hml, hown, hlk, hnm, hts, hK, rfl⟩ := hX
  intro H locs ls hR hz hL hl
  exact lv_ldcw hx hb hown (hts _ hw) (fd_dec hP hf) (k H locs ls hR hz hL hl)
theorem r_ldc2 (hX : Cl E M as d mc ms Y X) (hP : Dec M.2.1 P) (hf : fd P pc = some (.ldc2_w idx, 3)) {v : Int} (hw : Cond.constantLong M.1.cls idx (Int64.ofInt v) ∈ tb) (k : X cs ss (pc + 3) ((1, v) :: st) lo S G) : X cs ss pc st lo S G := by
  obtain ⟨p, e, z, m, below, meth, c, hx, hb, hr, hml, hown, hlk, hnm, hts, hK, rfl⟩ := hX
  intro H locs ls hR hz hL hl
  exact lv_ldc2 hx hb hown (hts _ hw) (fd_dec hP hf) (k H locs ls hR hz hL hl)
theorem r_tsIn (hX : Cl E M as d mc ms Y X) (hP : Dec M.2.1 P) {df lo' hi' : Int} {offs : Array Int} {len : Nat} (hf : fd P pc = some (.tableswitch df lo' hi' offs, len)) (x1 : -2147483648 ≤ x) (x2 : x ≤ 2147483647) (h1 : lo' ≤ x) (h2 : x ≤ hi') (ho : offs[(x - lo').toNat]? = some off) (ht : (pc : Int) + off = (tgt : Int)) (k : X cs ss tgt st lo S G) : X cs ss pc ((0, x) :: st) lo S G := by
  obtain ⟨p, e, z, m, below, meth, c, hx, hb, hr, hml, hown, hlk, hnm, hts, hK, rfl⟩ := hX
  intro H locs ls hR hz hL hl
  have e1 : (Int32.ofInt x).toInt = x := i32t x1 x2
  exact lv_tableIn hx hb (fd_dec hP hf) (by rw [e1]; omega) (by rw [e1]; omega) (by rw [e1]; exact ho) ht (k H locs ls hR hz hL hl)
theorem r_tsOut (hX : Cl E M as d mc ms Y X) (hP : Dec M.2.1 P) {df lo' hi' : Int} {offs : Array Int} {len : Nat} (hf : fd P pc = some (.tableswitch df lo' hi' offs, len)) (x1 : -2147483648 ≤ x) (x2 : x ≤ 2147483647) (h1 : x < lo' ∨ hi' < x) (ht : (pc : Int) + df = (tgt : Int)) (k : X cs ss tgt st lo S G) : X cs ss pc ((0, x) :: st) lo S G := by
  obtain ⟨p, e, z, m, below, meth, c, hx, hb, hr, hml, hown, hlk, hnm, hts, hK, rfl⟩ := hX
  intro H locs ls hR hz hL hl
  have e1 : (Int32.ofInt x).toInt = x := i32t x1 x2
  exact lv_tableOut hx hb (fd_dec hP hf) (by rw [e1]; exact h1) ht (k H locs ls hR hz hL hl)
/-- numbers of the heap, but those of the listed fields of label 1 and of the listed labels -/
def hv (mf ml : List Int) (G G1 : Gh) : Gh := fun L a j => if (L == 1 && mf.contains j) || ml.contains L then G1 L a j else G L a j
theorem r_eqG {G' : Gh} (h : G = G') (k : X cs ss pc st lo S G') : X cs ss pc st lo S G := h ▸ k
def Hc (mf ml : List Int) (L j : Int) : Bool := (L == 1 && mf.contains j) || ml.contains L
theorem hq_refl (mf ml : List Int) (G : Gh) : G = hv mf ml G G := by
  funext L a j
  unfold hv
  split <;> rfl
theorem hq_up {mf ml : List Int} {G0 G1 : Gh} {L a j v : Int} (h : G1 = hv mf ml G0 G1) (c : Hc mf ml L j = true) : up G1 L a j v = hv mf ml G0 (up G1 L a j v) := by
  funext L' a' j'
  unfold hv
  split
  · rfl
  · rename_i hn
    by_cases e : L' = L ∧ a' = a ∧ j' = j
    · obtain ⟨rfl, rfl, rfl⟩ := e
      exact absurd c hn
    · rw [up_ne e, congrFun (congrFun (congrFun h L') a') j']
      unfold hv
      rw [if_neg hn]
theorem hq_sub {mf ml mf' ml' : List Int} {G0 G1 G2 : Gh} (h : G1 = hv mf ml G0 G1) (c : (mf'.all mf.contains && ml'.all ml.contains) = true) : hv mf' ml' G1 G2 = hv mf ml G0 (hv mf' ml' G1 G2) := by
  funext L a j
  rw [Bool.and_eq_true] at c
  show _ = (if ((L == 1 && mf.contains j) || ml.contains L) = true then hv mf' ml' G1 G2 L a j else G0 L a j)
  split
  · rfl
  · rename_i hn
    have hn' : ¬ ((L == 1 && mf'.contains j) || ml'.contains L) = true := by
      intro hq
      apply hn
      rw [Bool.or_eq_true, Bool.and_eq_true] at hq ⊢
      rcases hq with ⟨q1, q2⟩ | q
      · exact Or.inl ⟨q1, List.all_eq_true.mp c.1 j (List.contains_iff_mem.mp q2)⟩
      · exact Or.inr (List.all_eq_true.mp c.2 L (List.contains_iff_mem.mp q))
    show (if ((L == 1 && mf'.contains j) || ml'.contains L) = true then G2 L a j else G1 L a j) = _
    rw [if_neg hn', congrFun (congrFun (congrFun h L) a) j]
    unfold hv
    rw [if_neg hn]
theorem hq_call {mf ml mf' ml' : List Int} {G0 G1 G2 : Gh} (h : G1 = hv mf ml G0 G1) (c : (mf'.all mf.contains && ml'.all ml.contains) = true) : hv mf' ml' G1 G2 = hv mf ml G0 (hv mf' ml' G1 G2) := hq_sub h c
theorem hq_loop {mf ml mf' ml' : List Int} {G0 G1 G2 : Gh} (h : G1 = hv mf ml G0 G1) (c : (mf'.all mf.contains && ml'.all ml.contains) = true) : hv mf' ml' G1 G2 = hv mf ml G0 (hv mf' ml' G1 G2) := hq_sub h c
theorem hq_base (mf ml : List Int) (G0 G1 : Gh) : hv mf ml G0 G1 = hv mf ml G0 (hv mf ml G0 G1) := by
  funext L a j
  unfold hv
  split
  · rfl
  · rfl
theorem r_hvloc (hX : Cl E M as d mc ms Y X) {lo1 lo2 : Lo} {i : Nat} (k : ∀ z : Int, -2147483648 ≤ z → z ≤ 2147483647 → Int32.ofInt z = Int32.ofInt x → X cs ss pc st (lo1 ++ (i, (0, z)) :: lo2) S G) : X cs ss pc st (lo1 ++ (i, (0, x)) :: lo2) S G := by
  obtain ⟨w, w1, w2, w3⟩ := i32ex (Int32.ofInt x)
  refine r_eq hX rfl ?_ (k w w1 w2 w3.symm)
  simp only [tl, List.map_append, List.map_cons, tv0, w3]
/-- known places -/
theorem r_getKI (hX : Cl E M as d mc ms Y X) (hP : Dec M.2.1 P) (hf : fd P pc = some (.getfield idx, 3)) {j : Nat} {l h : Int} (hF : Fl M.1.cls idx L j (0, l, h)) (hS : S a = L) (hk : x = G L a j) (k : X cs ss (pc + 3) ((0, x) :: st) lo S G) : X cs ss pc ((2, a) :: st) lo S G :=
  r_get hX hP hf hF hS (fun _ => by show X cs ss (pc + 3) ((0, G L a j) :: st) lo S G; rw [← hk]; exact k)
theorem r_getKL (hX : Cl E M as d mc ms Y X) (hP : Dec M.2.1 P) (hf : fd P pc = some (.getfield idx, 3)) {j : Nat} {l h : Int} (hF : Fl M.1.cls idx L j (1, l, h)) (hS : S a = L) (hk : x = G L a j) (k : X cs ss (pc + 3) ((1, x) :: st) lo S G) : X cs ss pc ((2, a) :: st) lo S G :=
  r_get hX hP hf hF hS (fun _ => by show X cs ss (pc + 3) ((1, G L a j) :: st) lo S G; rw [← hk]; exact k)
theorem r_ialdK (hX : Cl E M as d mc ms Y X) (hP : Dec M.2.1 P) (hf : fd P pc = some (.iaload, 1)) {n : Nat} {l h i : Int} (hA : Al L 0 n (0, l, h)) (hS : S a = L) (i1 : 0 ≤ i) (i2 : i < n) (hk : x = G L a i) (k : X cs ss (pc + 1) ((0, x) :: st) lo S G) : X cs ss pc ((0, i) :: (2, a) :: st) lo S G :=
  r_iald hX hP hf hA hS i1 i2 (fun v hv _ _ => by rw [hv, ← hk]; exact k)
theorem r_laldK (hX : Cl E M as d mc ms Y X) (hP : Dec M.2.1 P) (hf : fd P pc = some (.laload, 1)) {n : Nat} {l h i : Int} (hA : Al L 1 n (1, l, h)) (hS : S a = L) (i1 : 0 ≤ i) (i2 : i < n) (hk : x = G L a i) (k : X cs ss (pc + 1) ((1, x) :: st) lo S G) : X cs ss pc ((0, i) :: (2, a) :: st) lo S G :=
  r_lald hX hP hf hA hS i1 i2 (fun v hv _ _ => by rw [hv, ← hk]; exact k)
theorem r_zaldK (hX : Cl E M as d mc ms Y X) (hP : Dec M.2.1 P) (hf : fd P pc = some (.baload, 1)) {n : Nat} {l h i : Int} (hA : Al L 3 n (0, l, h)) (hS : S a = L) (i1 : 0 ≤ i) (i2 : i < n) (hk : x = G L a i) (k : X cs ss (pc + 1) ((0, x) :: st) lo S G) : X cs ss pc ((0, i) :: (2, a) :: st) lo S G :=
  r_zald hX hP hf hA hS i1 i2 (fun v hv _ _ => by rw [hv, ← hk]; exact k)
/-- a look at a field, without a step -/
def Tl (L : Int) (j : Nat) (t : Ty) : Prop := ∃ (ci : Nat) (fs : List Ty), lbls[L.toNat]? = some (.inl (ci, fs)) ∧ j < fs.length ∧ fs.getD j (0, 0, 0) = t ∧ L ≠ 0
theorem tl1 (j : Nat) {t : Ty} (h : fs_1.getD j (0, 0, 0) = t) (hj : j < fs_1.length) : Tl 1 j t := ⟨12, fs_1, rfl, hj, h, by decide⟩
theorem r_peek (hX : Cl E M as d mc ms Y X) {j : Nat} {t : Ty} (hT : Tl L j t) (hS : S a = L) (k : okv E S t (G L a j) → X cs ss pc st lo S G) : X cs ss pc st lo S G := by
  obtain ⟨p, e, z, m, below, meth, c, hx, hb, hr, hml, hown, hlk, hnm, hts, hK, rfl⟩ := hX
  obtain ⟨ci, fs, f1, f2, f3, f4⟩ := hT
  intro H locs ls hR hz hL hl
  obtain ⟨ha, hb0, hc⟩ := rep_at hR hS f4
  unfold cel at hc
  rw [f1] at hc
  have hv := hc.2 j f2
  rw [f3] at hv
  exact k hv H locs ls hR hz hL hl
theorem r_peekI (hX : Cl E M as d mc ms Y X) {j : Nat} {l h : Int} (hT : Tl L j (0, l, h)) (hS : S a = L) (k : ∀ v : Int, v = G L a j → l ≤ v → v ≤ h → X cs ss pc st lo S G) : X cs ss pc st lo S G := r_peek hX hT hS (fun o => k _ rfl o.1 o.2)
theorem r_peekL (hX : Cl E M as d mc ms Y X) {j : Nat} {l h : Int} (hT : Tl L j (1, l, h)) (hS : S a = L) (k : ∀ v : Int, v = G L a j → l ≤ v → v ≤ h → X cs ss pc st lo S G) : X cs ss pc st lo S G := r_peek hX hT hS (fun o => k _ rfl o.1 o.2)
theorem r_putIK (hX : Cl E M as d mc ms Y X) (hP : Dec M.2.1 P) (hf : fd P pc = some (.putfield idx, 3)) {j : Nat} {l h v : Int} (hF : Fp M.1.cls idx L j (0, l, h)) (hS : S a = L) (v1 : l ≤ v) (v2 : v ≤ h) (k : v = up G L a j v L a j → X cs ss (pc + 3) st lo S (up G L a j v)) : X cs ss pc ((0, v) :: (2, a) :: st) lo S G := r_putI hX hP hf hF hS v1 v2 (k (up_self _ _ _ _ _).symm)
theorem r_putLK (hX : Cl E M as d mc ms Y X) (hP : Dec M.2.1 P) (hf : fd P pc = some (.putfield idx, 3)) {j : Nat} {l h v : Int} (hF : Fp M.1.cls idx L j (1, l, h)) (hS : S a = L) (v1 : l ≤ v) (v2 : v ≤ h) (k : v = up G L a j v L a j → X cs ss (pc + 3) st lo S (up G L a j v)) : X cs ss pc ((1, v) :: (2, a) :: st) lo S G := r_putL hX hP hf hF hS v1 v2 (k (up_self _ _ _ _ _).symm)
theorem r_iastK (hX : Cl E M as d mc ms Y X) (hP : Dec M.2.1 P) (hf : fd P pc = some (.iastore, 1)) {n : Nat} {l h i v : Int} (hA : Al L 0 n (0, l, h)) (hS : S a = L) (i1 : 0 ≤ i) (i2 : i < n) (v1 : l ≤ v) (v2 : v ≤ h) (k : v = up G L a i v L a i → X cs ss (pc + 1) st lo S (up G L a i v)) : X cs ss pc ((0, v) :: (0, i) :: (2, a) :: st) lo S G := r_iast hX hP hf hA hS i1 i2 v1 v2 (k (up_self _ _ _ _ _).symm)
theorem r_lastK (hX : Cl E M as d mc ms Y X) (hP : Dec M.2.1 P) (hf : fd P pc = some (.lastore, 1)) {n : Nat} {l h i v : Int} (hA : Al L 1 n (1, l, h)) (hS : S a = L) (i1 : 0 ≤ i) (i2 : i < n) (v1 : l ≤ v) (v2 : v ≤ h) (k : v = up G L a i v L a i → X cs ss (pc + 1) st lo S (up G L a i v)) : X cs ss pc ((1, v) :: (0, i) :: (2, a) :: st) lo S G := r_last hX hP hf hA hS i1 i2 v1 v2 (k (up_self _ _ _ _ _).symm)
theorem r_bastK (hX : Cl E M as d mc ms Y X) (hP : Dec M.2.1 P) (hf : fd P pc = some (.bastore, 1)) {n : Nat} {l h i v : Int} (hA : Al L 2 n (0, l, h)) (hS : S a = L) (i1 : 0 ≤ i) (i2 : i < n) (v1 : l ≤ v) (v2 : v ≤ h) (b1 : -128 ≤ v) (b2 : v ≤ 127) (k : v = up G L a i v L a i → X cs ss (pc + 1) st lo S (up G L a i v)) : X cs ss pc ((0, v) :: (0, i) :: (2, a) :: st) lo S G := r_bast hX hP hf hA hS i1 i2 v1 v2 b1 b2 (k (up_self _ _ _ _ _).symm)
theorem r_zastK (hX : Cl E M as d mc ms Y X) (hP : Dec M.2.1 P) (hf : fd P pc = some (.bastore, 1)) {n : Nat} {l h i v : Int} (hA : Al L 3 n (0, l, h)) (hS : S a = L) (i1 : 0 ≤ i) (i2 : i < n) (v1 : l ≤ v) (v2 : v ≤ h) (b1 : 0 ≤ v) (b2 : v ≤ 1) (k : v = up G L a i v L a i → X cs ss (pc + 1) st lo S (up G L a i v)) : X cs ss pc ((0, v) :: (0, i) :: (2, a) :: st) lo S G := r_zast hX hP hf hA hS i1 i2 v1 v2 b1 b2 (k (up_self _ _ _ _ _).symm)
theorem td_pos {q x y : Int} (h : q = Int.tdiv x y) (hx : 0 ≤ x) (hy : 0 < y) : 0 ≤ q ∧ q ≤ x ∧ q * y ≤ x := by
  subst h
  rw [Int.tdiv_eq_ediv_of_nonneg hx]
  have h1 := Int.ediv_nonneg hx (by omega : 0 ≤ y)
  have h2 := Int.ediv_mul_le x (by omega : y ≠ 0)
  refine ⟨h1, Int.ediv_le_self _ hx, h2⟩
theorem tm_pos {q x y : Int} (h : q = Int.tmod x y) (hx : 0 ≤ x) (hy : 0 < y) : 0 ≤ q ∧ q < y := by
  subst h
  rw [Int.tmod_eq_emod_of_nonneg hx]
  exact ⟨Int.emod_nonneg _ (by omega), Int.emod_lt_of_pos _ hy⟩
theorem tm_gen {q x y : Int} (h : q = Int.tmod x y) (hy : 0 < y) : -y < q ∧ q < y := by
  subst h
  exact tmod_bounds hy
theorem td_gen {q x y : Int} (h : q = Int.tdiv x y) (hy : 0 < y) : (0 ≤ x → 0 ≤ q ∧ q ≤ x) ∧ (x ≤ 0 → x ≤ q ∧ q ≤ 0) := by
  refine ⟨fun hx => ?_, fun hx => ?_⟩
  · have := td_pos h hx hy
    exact ⟨this.1, this.2.1⟩
  · have e : (-q) = Int.tdiv (-x) y := by rw [h, Int.neg_tdiv]
    have := td_pos e (by omega) hy
    omega
end RUM
