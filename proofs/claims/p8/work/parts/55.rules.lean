section RUD
variable {E : En} {M : Mk} {as : List Vl} {d mc ms : Nat} {Y : Option Vl → Sg → Gh → Prop} {X : Xp} {cs ss : Nat} {S : Sg} {G : Gh} {P : Cod} {pc tgt idx : Nat} {st : List Vl} {lo : Lo} {x y off a L : Int}
/-- the same rules with the new heap under names of its own -/
theorem r_newA (hX : Cl E M as d mc ms Y X) (hP : Dec M.2.1 P) (hf : fd P pc = some (.new idx, 3)) {N : Nat} (hN : Nw M.1.cls idx L N) (hmc : cs + 1 ≤ mc) (hms : ss + N ≤ ms) (k : ∀ (a : Int) (S' : Sg) (G' : Gh), S a = 0 → 0 ≤ a → S' a = L → Gr [L] [] S G S' G' → (∀ j : Int, G' L a j = dfl L j) → X (cs + 1) (ss + N) (pc + 3) ((2, a) :: st) lo S' G') : X cs ss pc st lo S G :=
  r_new hX hP hf hN hmc hms (fun a h0 h1 => k a _ _ h0 h1 (sup_self _ _ _) (grx_new (gr_refl [L] [] S G) h0 (List.mem_singleton.mpr rfl)) (fun j => nwG_self _ _ _ _ j))
theorem r_newarrA (hX : Cl E M as d mc ms Y X) (hP : Dec M.2.1 P) {atype : ArrayType} (hf : fd P pc = some (.newarray atype, 2)) {t n : Nat} {y : Ty} (hA : Al L t n y) (ht : t < 4) (hty : newarray.typeOf atype = aty t) (hy : ok0 y = true) (hd0 : defaultValue (aty t) = tv (y.1, dv y)) (w1 : Cond.arrayClass (newarray.typeOf atype) ∈ tb) (hby : n * componentBytes (newarray.typeOf atype) ≤ 536870912) (hmc : cs + 1 ≤ mc) (hms : ss + n ≤ ms) (k : ∀ (a : Int) (S' : Sg) (G' : Gh), S a = 0 → 0 ≤ a → S' a = L → Gr [L] [] S G S' G' → (∀ j : Int, G' L a j = dv y) → X (cs + 1) (ss + n) (pc + 2) ((2, a) :: st) lo S' G') : X cs ss pc ((0, (n : Int)) :: st) lo S G :=
  r_newarr hX hP hf hA ht hty hy hd0 w1 hby hmc hms (fun a h0 h1 => k a _ _ h0 h1 (sup_self _ _ _) (grx_new (gr_refl [L] [] S G) h0 (List.mem_singleton.mpr rfl)) (fun j => nwG_self _ _ _ _ j))
/-- another label for a new object -/
def Rs (a L L' : Int) (S : Sg) (G : Gh) (S' : Sg) (G' : Gh) : Prop := S' a = L' ∧ (∀ x : Int, x ≠ a → S' x = S x) ∧ (∀ j : Int, G' L' a j = G L a j) ∧ ∀ M x j : Int, x ≠ a → G' M x j = G M x j
theorem r_relabA (hX : Cl E M as d mc ms Y X) {L' : Int} (hS : S a = L) (hR : Rl L L') (ho : ∀ j : Nat, j < (fsl L').length → okv E (sup S a L') ((fsl L').getD j (0, 0, 0)) (G L a j)) (k : ∀ (S' : Sg) (G' : Gh), Rs a L L' S G S' G' → X cs ss pc st lo S' G') : X cs ss pc st lo S G :=
  r_relab hX hS hR ho (k _ _ ⟨sup_self _ _ _, fun x hx => sup_ne hx, fun j => mvG_self _ _ _ _ _, fun M x j hx => mvG_ne (fun q => hx q.2)⟩)
theorem Rs.lab {L' x K : Int} {S' : Sg} {G' : Gh} (h : Rs a L L' S G S' G') (hS : S a = L) (hx : S x = K) (hne : K ≠ L) : S' x = K := by
  rw [h.2.1 x (fun e => hne (by rw [← hx, e]; exact hS))]
  exact hx
theorem Rs.at {L' x K j : Int} {S' : Sg} {G' : Gh} (h : Rs a L L' S G S' G') (hS : S a = L) (hx : S x = K) (hne : K ≠ L) : G' K x j = G K x j := h.2.2.2 K x j (fun e => hne (by rw [← hx, e]; exact hS))
theorem gr_rs {nl : List Int} {ws : List (Int × Int)} {S' S'' : Sg} {G' G'' : Gh} {L' : Int} (g : Gr nl ws S G S' G') (h : Rs a L L' S' G' S'' G'') (h0 : S a = 0) (hn : nl.contains L' = true) : Gr nl ws S G S'' G'' := by
  refine ⟨fun y hy => ?_, fun y hy => ?_, fun y i hy hi => ?_⟩
  · rw [h.2.1 y (fun e => hy (by rw [e]; exact h0))]
    exact g.1 y hy
  · by_cases e : y = a
    · rw [e, h.1]
      exact Or.inr (by simpa using hn)
    · rw [h.2.1 y e]
      exact g.2.1 y hy
  · rw [h.2.2.2 _ y i (fun e => hy (by rw [e]; exact h0))]
    exact g.2.2 y i hy hi
theorem gr_lab {nl : List Int} {ws : List (Int × Int)} {S' : Sg} {G' : Gh} (g : Gr nl ws S G S' G') (hx : S x = L) (hL : L ≠ 0) : S' x = L := g.1.lab hx hL
theorem gr_val {nl : List Int} {ws : List (Int × Int)} {S' : Sg} {G' : Gh} {v j : Int} (g : Gr nl ws S G S' G') (hv : v = G L x j) (hx : S x = L) (hL : L ≠ 0) (hi : inm ws L j = false) : v = G' L x j := by rw [gr_at g hx hL hi]; exact hv
theorem rs_val {L' K v j : Int} {S' : Sg} {G' : Gh} (h : Rs a L L' S G S' G') (hS : S a = L) (hv : v = G K x j) (hx : S x = K) (hne : K ≠ L) : v = G' K x j := by rw [h.at hS hx hne]; exact hv
theorem gr_zero {nl : List Int} {ws : List (Int × Int)} {S' : Sg} {G' : Gh} (g : Gr nl ws S G S' G') (h : S' x = 0) : S x = 0 := gr_old g h
def No (ls : List Int) (S : Sg) : Prop := ∀ L ∈ ls, ∀ x : Int, S x ≠ L
theorem gr_back {nl : List Int} {ws : List (Int × Int)} {S' : Sg} {G' : Gh} (g : Gr nl ws S G S' G') (h : S' x = L) (hL : L ≠ 0) (hn : nl.contains L = false) : S x = L := by
  by_cases e : S x = 0
  · rcases g.2.1 x e with q | q
    · exact absurd (h.symm.trans q) hL
    · exfalso
      rw [h] at q
      have : nl.contains L = true := by simpa using q
      rw [this] at hn
      cases hn
  · rw [← g.1 x e]
    exact h
theorem no_gr {t : List Int} {nl : List Int} {ws : List (Int × Int)} {S' : Sg} {G' : Gh} (u : No t S) (g : Gr nl ws S G S' G') (c : t.all (fun q => q != 0 && !nl.contains q) = true) : No t S' := by
  intro q hq x hx
  have h := List.all_eq_true.mp c q hq
  simp only [Bool.and_eq_true, bne_iff_ne, ne_eq, Bool.not_eq_true'] at h
  exact u q hq x (gr_back g hx h.1 h.2)
theorem no_rs {t t' : List Int} {L' : Int} {S' : Sg} {G' : Gh} (u : No t S) (h : Rs a L L' S G S' G') (c : t'.all (fun q => q != L' && t.contains q) = true) : No t' S' := by
  intro q hq x hx
  have h1 := List.all_eq_true.mp c q hq
  simp only [Bool.and_eq_true, bne_iff_ne, ne_eq] at h1
  by_cases e : x = a
  · rw [e, h.1] at hx
    exact h1.1 hx.symm
  · rw [h.2.1 x e] at hx
    exact u q (by simpa using h1.2) x hx
theorem no_sub {t t' : List Int} (u : No t S) (c : t'.all (fun q => t.contains q) = true) : No t' S := fun q hq => u q (by simpa using List.all_eq_true.mp c q hq)
/-- an object whose fields are all as a label wants them -/
def Fnl (E : En) (fs : List Ty) (L : Int) (S : Sg) (G : Gh) (a : Int) : Prop := ∀ j : Nat, j < fs.length → okv E S (fs.getD j (0, 0, 0)) (G L a j)
theorem r_finA (hX : Cl E M as d mc ms Y X) {ci : Nat} {fs : List Ty} (h1 : lbls[L.toNat]? = some (.inl (ci, fs))) (hS : S a = L) (hL : L ≠ 0) (k : Fnl E fs L S G a → X cs ss pc st lo S G) : X cs ss pc st lo S G := by
  obtain ⟨p, e, z, m, below, meth, c, hx, hb, hr, hml, hown, hlk, hnm, hts, hK, rfl⟩ := hX
  intro H locs ls hR hz hL' hl
  refine k (fun j hj => ?_) H locs ls hR hz hL' hl
  have h := (hR.2.2 a (by rw [hS]; exact hL)).2.2
  rw [hS] at h
  unfold cel at h
  rw [h1] at h
  exact h.2 j hj
theorem r_relabF (hX : Cl E M as d mc ms Y X) {L' : Int} {ci : Nat} {fs fs' : List Ty} (r1 : lbls[L.toNat]? = some (.inl (ci, fs))) (r2 : lbls[L'.toNat]? = some (.inl (ci, fs'))) (r3 : fs.length = fs'.length) (r4 : L ≠ 0) (r5 : L' ≠ 0) (r6 : norf L = true) (r7 : (List.range fs'.length).all (fun j => decide ((fs.getD j (0, 0, 0)).1 = (fs'.getD j (0, 0, 0)).1) || (decide (2 ≤ (fs.getD j (0, 0, 0)).1) && decide (2 ≤ (fs'.getD j (0, 0, 0)).1))) = true) (hS : S a = L) (ho : Fnl E fs' L S G a) (k : ∀ (S' : Sg) (G' : Gh), Rs a L L' S G S' G' → X cs ss pc st lo S' G') : X cs ss pc st lo S G := by
  have ef : fsl L' = fs' := by unfold fsl; rw [r2]
  refine r_relabA hX hS ⟨ci, fs, fs', r1, r2, r3, r4, r5, r6, fun j hj => ?_⟩ (fun j hj => ?_) k
  · have := List.all_eq_true.mp r7 j (List.mem_range.mpr hj)
    simpa using this
  · rw [ef] at hj ⊢
    exact okv_rl hS (norf_in r6 r2 j) (ho j hj)
/-- final fields -/
theorem r_putFI (hX : Cl E M as d mc ms Y X) (hP : Dec M.2.1 P) (hf : fd P pc = some (.putfield idx, 3)) (hi : M.1.name = "<init>") {j : Nat} {l h v : Int} (hF : Fpf M.1.cls idx L j (0, l, h)) (hS : S a = L) (v1 : l ≤ v) (v2 : v ≤ h) (k : v = up G L a j v L a j → X cs ss (pc + 3) st lo S (up G L a j v)) : X cs ss pc ((0, v) :: (2, a) :: st) lo S G := r_putF hX hP hf hi hF hS ⟨v1, v2⟩ (k (up_self _ _ _ _ _).symm)
theorem r_putFN (hX : Cl E M as d mc ms Y X) (hP : Dec M.2.1 P) (hf : fd P pc = some (.putfield idx, 3)) (hi : M.1.name = "<init>") {j : Nat} {l h v : Int} (hF : Fpf M.1.cls idx L j (3, l, h)) (hS : S a = L) (hl : l ≠ 0) (hv : v = -1 ∨ S v = l) (k : v = up G L a j v L a j → X cs ss (pc + 3) st lo S (up G L a j v)) : X cs ss pc ((2, v) :: (2, a) :: st) lo S G :=
  r_eq hX (st' := (3, v) :: (2, a) :: st) rfl rfl (r_putF hX hP hf hi hF hS (hv.imp id (fun q => ⟨q, hl⟩)) (k (up_self _ _ _ _ _).symm))
theorem r_putE (hX : Cl E M as d mc ms Y X) (hP : Dec M.2.1 P) (hf : fd P pc = some (.putfield idx, 3)) {j : Nat} {l h v : Int} (hF : Fp M.1.cls idx L j (6, l, h)) (hS : S a = L) (hv : v = -1 ∨ v = Ad E 0) (k : v = up G L a j v L a j → X cs ss (pc + 3) st lo S (up G L a j v)) : X cs ss pc ((2, v) :: (2, a) :: st) lo S G :=
  r_eq hX (st' := (6, v) :: (2, a) :: st) rfl rfl (r_put hX hP hf hF hS hv (k (up_self _ _ _ _ _).symm))
theorem r_put5 (hX : Cl E M as d mc ms Y X) (hP : Dec M.2.1 P) (hf : fd P pc = some (.putfield idx, 3)) {j : Nat} {l h v : Int} (hF : Fp M.1.cls idx L j (5, l, h)) (hS : S a = L) (h0 : 0 < l) (h1 : l ≤ S v) (h2 : S v ≤ h) (k : v = up G L a j v L a j → X cs ss (pc + 3) st lo S (up G L a j v)) : X cs ss pc ((2, v) :: (2, a) :: st) lo S G :=
  r_eq hX (st' := (5, v) :: (2, a) :: st) rfl rfl (r_put hX hP hf hF hS (Or.inr ⟨h1, h2, h0⟩) (k (up_self _ _ _ _ _).symm))
/-- two references held against each other -/
theorem tvrf (x : Int) : tv (2, x) = va_rf (if x < 0 then none else some x.toNat) := by
  by_cases h : x < 0
  · rw [if_pos h, tv2n h]; rfl
  · rw [if_neg h, tv2 (by first | decide | omega)]; rfl
theorem rf_eq {x y : Int} (hx : -1 ≤ x) (hy : -1 ≤ y) : ((if x < 0 then none else some x.toNat) = (if y < 0 then none else some y.toNat)) ↔ x = y := by
  by_cases h : x < 0 <;> by_cases h' : y < 0 <;> simp [h, h'] <;> omega
theorem r_acmpE (hX : Cl E M as d mc ms Y X) (hP : Dec M.2.1 P) (hf : fd P pc = some (.if_acmp .eq off, 3)) (ht : (pc : Int) + off = (tgt : Int)) (hx : -1 ≤ x) (hy : -1 ≤ y) (kt : x = y → X cs ss tgt st lo S G) (kf : x ≠ y → X cs ss (pc + 3) st lo S G) : X cs ss pc ((2, y) :: (2, x) :: st) lo S G := by
  obtain ⟨p, e, z, m, below, meth, c, hx', hb, hr, hml, hown, hlk, hnm, hts, hK, rfl⟩ := hX
  intro H locs ls hR hz hL hl
  simp only [ts, List.map_cons]
  rw [tvrf x, tvrf y]
  exact lv_acmp_eq hx' hb (fd_dec hP hf) ht (fun q => kt ((rf_eq hx hy).mp q) H locs ls hR hz hL hl) (fun q => kf (fun w => q ((rf_eq hx hy).mpr w)) H locs ls hR hz hL hl)
theorem r_acmpN (hX : Cl E M as d mc ms Y X) (hP : Dec M.2.1 P) (hf : fd P pc = some (.if_acmp .ne off, 3)) (ht : (pc : Int) + off = (tgt : Int)) (hx : -1 ≤ x) (hy : -1 ≤ y) (kt : x ≠ y → X cs ss tgt st lo S G) (kf : x = y → X cs ss (pc + 3) st lo S G) : X cs ss pc ((2, y) :: (2, x) :: st) lo S G := by
  obtain ⟨p, e, z, m, below, meth, c, hx', hb, hr, hml, hown, hlk, hnm, hts, hK, rfl⟩ := hX
  intro H locs ls hR hz hL hl
  simp only [ts, List.map_cons]
  rw [tvrf x, tvrf y]
  exact lv_acmp_ne hx' hb (fd_dec hP hf) ht (fun q => kt (fun w => q ((rf_eq hx hy).mpr w)) H locs ls hR hz hL hl) (fun q => kf ((rf_eq hx hy).mp q) H locs ls hR hz hL hl)
/-- the class object of the lists' arrays -/
def mI (E : En) : Int := ((Ad E (-300)).toNat : Int)
theorem r_ldcM (hX : Cl E M as d mc ms Y X) (hP : Dec M.2.1 P) (hf : fd P pc = some (.ldc idx, 2)) (w1 : Cond.classLink M.1.cls idx "[Ljava/lang/Object;" ∈ tb) (k : X cs ss (pc + 2) ((2, mI E) :: st) lo S G) : X cs ss pc st lo S G := by
  obtain ⟨p, e, z, m, below, meth, c, hx, hb, hr, hml, hown, hlk, hnm, hts, hK, rfl⟩ := hX
  intro H locs ls hR hz hL hl
  have k := k H locs ls hR hz hL hl
  simp only [ts, List.map_cons] at k
  rw [show tv (2, mI E) = .ref (Ad E (-300)).toNat from tvM _] at k
  exact va_ldcM hx hb hown (hts _ w1) hK.2.2.2.2.2.2.2.2.2.1 (fd_dec hP hf) k
theorem r_getCls (hX : Cl E M as d mc ms Y X) (hP : Dec M.2.1 P) (hf : fd P pc = some (.invokevirtual idx, 3)) {n : Nat} {b : Ty} (hA : Al L 5 n b) (hS : S a = L) (w1 : Cond.methodLink M.1.cls idx ⟨"java/lang/Object", "getClass", "()Ljava/lang/Class;"⟩ ∈ tb) (w2 : Cond.declares ⟨"java/lang/Object", "getClass", "()Ljava/lang/Class;"⟩ ∈ xwl)
    (w3 : Cond.selects "[Ljava/lang/Object;" ⟨"java/lang/Object", "getClass", "()Ljava/lang/Class;"⟩ ⟨"java/lang/Object", "getClass", "()Ljava/lang/Class;"⟩ ∈ tb) (w4 : Cond.instanceMethod ⟨"java/lang/Object", "getClass", "()Ljava/lang/Class;"⟩ ∈ tb) (w5 : Cond.native ⟨"java/lang/Object", "getClass", "()Ljava/lang/Class;"⟩ ∈ tb) (hd : 1 ≤ d) (hsc : sc st ≤ 8) (k : X cs ss (pc + 3) ((2, mI E) :: st) lo S G) : X cs ss pc ((2, a) :: st) lo S G := by
  obtain ⟨p, e, z, m, below, meth, c, hx, hb, hr, hml, hown, hlk, hnm, hts, hK, rfl⟩ := hX
  intro H locs ls hR hz hL hl
  obtain ⟨ha, hb0, hc, ho⟩ := arr_at hR hA hS
  have k := k H locs ls hR hz hL hl
  simp only [ts, List.map_cons] at k ⊢
  rw [show tv (2, mI E) = .ref (Ad E (-300)).toNat from tvM _] at k
  rw [tv2 ha]
  refine va_getC hx hb (by rw [hml]; exact hl.1.symm) hown (hts _ w1) (va_Nw.use rfl (hK.2.2.2.1.1 _ w2)) (hts _ w3) (hts _ w4) (hts _ w5) hK.2.2.2.2.2.2.2.2.2.1 ⟨_, hc, rfl, hK.2.2.1 5 (by decide)⟩ (show 1 ≤ d from hd) ?_ (fd_dec hP hf) k
  show ((ts st).map fun v => v.category).sum + 14 ≤ 100 * d
  rw [sc_ok]
  omega
/-- a new array for a list -/
theorem r_anewA (hX : Cl E M as d mc ms Y X) (hP : Dec M.2.1 P) (hf : fd P pc = some (.anewarray idx, 3)) {n : Nat} {el h : Int} (hA : Al L 5 n (3, el, h)) (w1 : Cond.classLink M.1.cls idx "java/lang/Object" ∈ tb) (hby : n * 4 ≤ 536870912) (hmc : cs + 1 ≤ mc) (hms : ss + n ≤ ms) (k : ∀ (a : Int) (S' : Sg) (G' : Gh), S a = 0 → 0 ≤ a → S' a = L → Gr [L] [] S G S' G' → (∀ j : Int, G' L a j = -1) → X (cs + 1) (ss + n) (pc + 3) ((2, a) :: st) lo S' G') : X cs ss pc ((0, (n : Int)) :: st) lo S G := by
  obtain ⟨p, e, z, m, below, meth, c, hx, hb, hr, hml, hown, hlk, hnm, hts, hK, rfl⟩ := hX
  intro H locs ls hR hz hL hl
  have hn : (Int32.ofInt (n : Int)).toInt = n := i32t (by first | decide | omega) (by have := hA.2.2; omega)
  have hn' : (Int32.ofInt (n : Int)).toNatClampNeg = n := by
    show (Int32.ofInt (n : Int)).toInt.toNat = n
    rw [hn]; rfl
  simp only [ts, List.map_cons]
  rw [tv0]
  refine W.anew hx hb hown (hts _ w1) (va_AO.use hK.2.2.2.1.2.1) rfl (fd_dec hP hf) rfl (by rw [Int32.lt_iff_toInt_lt, hn, Int32.toInt_zero]; omega) (by rw [hn']; exact hby) hmc (by rw [hn']; exact hms) fun cA kA comp f1 f2 f3 f4 => ?_
  rw [hn']
  have eA : cA = E.2.2.1 5 := by
    have := hK.2.2.1 5 (by decide)
    exact Option.some.inj (f1.symm.trans this)
  subst eA
  generalize hH1 : H.push ({ cls := E.2.2.1 5, slots := Array.replicate n .null, vm := .none } : Cell) = H1
  have z1 : H1.size = H.size + 1 := by rw [← hH1, Array.size_push]
  have e1 : H1[H.size]? = some (arrV (E.2.2.1 5) n (fun _ => .null)) := by rw [← hH1, Array.getElem?_push_size, ← arrV_new]
  have o1 : ∀ q : Nat, q < H.size → H1[q]? = H[q]? := fun q hq => by rw [← hH1, Array.getElem?_push, if_neg (Nat.ne_of_lt hq)]
  have hc : cel E (sup S (H.size : Nat) L) (nwG G L (H.size : Nat) (fun _ => -1)) H1 L (H.size : Nat) := by
    unfold cel
    rw [hA.1]
    simp only [Int.toNat_natCast]
    refine ⟨?_, fun j hj => by rw [nwG_self]; exact Or.inl rfl⟩
    rw [e1]
    congr 2
    funext j
    rw [nwG_self]
    rfl
  have h0 := rep_fresh hR (Nat.le_refl H.size)
  have k := k (H.size : Nat) _ _ h0 (Int.natCast_nonneg _) (sup_self _ _ _) (grx_new (gr_refl [L] [] S G) h0 (List.mem_singleton.mpr rfl)) (fun j => nwG_self _ _ _ (fun _ => -1) j) H1 locs ls (rep_new hR hA.2.1 z1 o1 hc) (by first | decide | omega) hL hl
  simp only [ts, List.map_cons] at k
  rw [tvM] at k
  exact k
/-- an object laid into a list's array -/
theorem obj_comp {z : State} (hK : Kw E z) : ∃ (kA : Class) (comp : ClassId) (kc : Class), z.vm.classes[E.2.2.1 5]? = some kA ∧ kA.kind = .array comp (.object "java/lang/Object") ∧ z.vm.findClass "java/lang/Object" = some comp ∧ z.vm.classes[comp]? = some kc := by
  obtain ⟨comp, cA, kA, h1, h2, h3, h4, h5⟩ := Cond.arrayOver_spec (va_AO.use (A := #[]) hK.2.2.2.1.2.1)
  have := hK.2.2.1 5 (by decide)
  have e : cA = E.2.2.1 5 := Option.some.inj (h5.symm.trans this)
  subst e
  obtain ⟨kc, hkc, -⟩ := Vm.findClass_spec h1
  exact ⟨kA, comp, kc, h3, h4, h1, hkc⟩
theorem r_aast (hX : Cl E M as d mc ms Y X) (hP : Dec M.2.1 P) (hf : fd P pc = some (.aastore, 1)) {n : Nat} {el h i v : Int} (hA : Al L 5 n (3, el, h)) (hC : Ck el "java/lang/Object") (hS : S a = L) (hv : S v = el) (i1 : 0 ≤ i) (i2 : i < n) (k : X cs ss (pc + 1) st lo S (up G L a i v)) : X cs ss pc ((2, v) :: (0, i) :: (2, a) :: st) lo S G := by
  obtain ⟨p, e, z, m, below, meth, c, hx, hb, hr, hml, hown, hlk, hnm, hts, hK, rfl⟩ := hX
  obtain ⟨ci, N, fs, C, T, d1, d2, d3, d4⟩ := hC
  intro H locs ls hR hz hL hl
  obtain ⟨ha, hb0, hc, ho⟩ := arr_at hR hA hS
  obtain ⟨hv0, cellV, g1, g2, g3⟩ := obj_at hK hR d1 d2 d3 hv
  obtain ⟨q1, q2⟩ := ix_in i1 i2 hA.2.2
  have hi : ((i.toNat : Nat) : Int) = i := by omega
  obtain ⟨kA, comp, kc, o1, o2, o3, o4⟩ := obj_comp hK
  obtain ⟨kC, hkC, -⟩ := Vm.findClass_spec g3
  have has : z.vm.assignable cellV.cls comp = true := by
    rcases d4 with d4 | d4
    · subst d4
      exact vb_asgS _ _ o3 g3
    · exact vb_asgC (hK.2.2.2.1.1 _ d4) _ _ o3 g3
  simp only [ts, List.map_cons]
  rw [tv2 ha, tv2 hv0, tv0]
  refine W.aast hx hb hc (fun q h => by cases h) (fun h => by cases h) o1 o2 rfl o4 ⟨fun q => q1 (Or.inl q), by rw [arrV_size]; exact Nat.not_le.mp fun q => q1 (Or.inr q)⟩ g1 (fun q h => by rw [h] at g2; cases g2) hkC has rfl rfl (fd_dec hP hf) fun H' e1 e2 e3 => ?_
  refine k H' _ ls (rep_up hR hS hA.2.1 e2 e3 ?_) (by rw [e2]; exact hz) ?_ hl
  · unfold cel
    rw [hA.1]
    refine ⟨?_, fun j hj => okv_S (n := n) (ho j hj) (Or.inr ⟨hv, d2⟩)⟩
    rw [e1, q2, arrV_store]
    congr 2
    funext j
    by_cases ej : j = i.toNat
    · subst ej
      simp only [updV, if_true]
      rw [hi, up_self, tv3, tv2 hv0]
    · simp only [updV, if_neg ej]
      rw [up_ne (fun q => ej (by first | decide | omega))]
  · intro q hq
    rcases List.mem_append.mp hq with h9 | h9
    · exact hL q h9
    · rw [List.mem_singleton.mp h9]
      exact hb0
end RUD
