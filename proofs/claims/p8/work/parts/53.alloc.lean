section RUA
variable {E : En} {M : Mk} {as : List Vl} {d mc ms : Nat} {Y : Option Vl → Sg → Gh → Prop} {X : Xp} {cs ss : Nat} {S : Sg} {G : Gh} {P : Cod} {pc tgt idx : Nat} {st : List Vl} {lo : Lo} {x y off a L : Int}
theorem tvM (n : Nat) : tv (2, (n : Int)) = .ref n := tv2 (Int.natCast_nonneg n)
/-- a new place gets its label -/
def sup (S : Sg) (a L : Int) : Sg := fun x => if x = a then L else S x
theorem sup_self (S : Sg) (a L : Int) : sup S a L a = L := if_pos rfl
theorem sup_ne {S : Sg} {x a L : Int} (h : x ≠ a) : sup S a L x = S x := if_neg h
/-- the numbers of a new place -/
def nwG (G : Gh) (L a : Int) (f : Int → Int) : Gh := fun L' a' j' => if L' = L ∧ a' = a then f j' else G L' a' j'
theorem nwG_self (G : Gh) (L a : Int) (f : Int → Int) (j : Int) : nwG G L a f L a j = f j := if_pos ⟨rfl, rfl⟩
theorem nwG_ne {G : Gh} {L a L' a' j : Int} {f : Int → Int} (h : ¬ (L' = L ∧ a' = a)) : nwG G L a f L' a' j = G L' a' j := if_neg h
/-- what is labelled stays labelled -/
def Ex (S S' : Sg) : Prop := ∀ x : Int, S x ≠ 0 → S' x = S x
theorem Ex.refl (S : Sg) : Ex S S := fun _ _ => rfl
theorem Ex.trans {S S' S'' : Sg} (h : Ex S S') (h' : Ex S' S'') : Ex S S'' := fun x hx => by rw [h' x (by rw [h x hx]; exact hx), h x hx]
theorem Ex.lab {S S' : Sg} (h : Ex S S') {x L : Int} (hx : S x = L) (hL : L ≠ 0) : S' x = L := by rw [h x (by rw [hx]; exact hL), hx]
theorem sup_ex {S : Sg} {a L : Int} (h : S a = 0) : Ex S (sup S a L) := fun x hx => sup_ne (fun e => hx (by rw [e]; exact h))
theorem okv_ext {t : Ty} {x : Int} {S S' : Sg} (hE : Ex S S') (h : okv E S t x) : okv E S' t x := by
  obtain ⟨k, l, u⟩ := t
  match k, h with
  | 0, h => exact h
  | 1, h => exact h
  | 2, h => exact ⟨hE.lab h.1 h.2, h.2⟩
  | 3, h => exact h.imp id (fun h => ⟨hE.lab h.1 h.2, h.2⟩)
  | 4, h => exact ⟨h.1, hE.lab h.2.1 h.2.2, h.2.2⟩
  | 5, h =>
    refine h.imp id (fun h => ?_)
    have e := hE x (by have := h.1; have := h.2.2; omega)
    show l ≤ S' x ∧ S' x ≤ u ∧ 0 < l
    rw [e]
    exact h
  | 6, h => exact h
  | k + 7, h => exact ⟨h.1, hE.lab h.2.1 h.2.2, h.2.2⟩
theorem cel_S {S S' : Sg} {H : Heap} (hE : Ex S S') (h : cel E S G H L a) : cel E S' G H L a := by
  revert h
  unfold cel
  cases e : lbls[L.toNat]? with
  | none => exact id
  | some q =>
    rcases q with ⟨ci, fs⟩ | ⟨t, n, y⟩
    · exact fun h => ⟨h.1, fun j hj => okv_ext hE (h.2 j hj)⟩
    · exact fun h => ⟨h.1, fun j hj => okv_ext hE (h.2 j hj)⟩
theorem cel_lt {S : Sg} {H : Heap} (h : cel E S G H L a) : a.toNat < H.size := by
  revert h
  unfold cel
  cases e : lbls[L.toNat]? with
  | none => exact fun h => h.elim
  | some q =>
    rcases q with ⟨ci, fs⟩ | ⟨t, n, y⟩
    · rintro ⟨⟨cell, c1, -⟩, -⟩
      exact (Array.getElem?_eq_some_iff.mp c1).1
    · rintro ⟨c1, -⟩
      exact (Array.getElem?_eq_some_iff.mp c1).1
theorem rep_fresh {H : Heap} {n : Nat} (h : rep E S G H) (hn : H.size ≤ n) : S (n : Int) = 0 := by
  apply Classical.byContradiction
  intro q
  have := cel_lt (h.2.2 _ q).2.2
  simp at this
  omega
theorem rep_new {H H' : Heap} {f : Int → Int} (h : rep E S G H) (hL : L ≠ 0) (hs : H'.size = H.size + 1) (o : ∀ q : Nat, q < H.size → H'[q]? = H[q]?) (hc : cel E (sup S (H.size : Nat) L) (nwG G L (H.size : Nat) f) H' L (H.size : Nat)) : rep E (sup S (H.size : Nat) L) (nwG G L (H.size : Nat) f) H' := by
  have hf := rep_fresh h (Nat.le_refl _)
  refine ⟨by have := h.1; omega, fun q hq => by rw [o q (by have := h.1; omega)]; exact h.2.1 q hq, fun a' h' => ?_⟩
  by_cases e : a' = (H.size : Nat)
  · subst e
    rw [sup_self]
    exact ⟨Int.natCast_nonneg _, by simpa using h.1, hc⟩
  · rw [sup_ne e] at h' ⊢
    obtain ⟨g1, g2, g3⟩ := h.2.2 a' h'
    exact ⟨g1, g2, cel_S (sup_ex hf) (cel_frame g3 (o _ (cel_lt g3)) (fun j => nwG_ne (fun q => e q.2)))⟩
def dv (t : Ty) : Int := if t.1 ≤ 1 then 0 else -1
def ok0 (t : Ty) : Bool := match t.1 with
  | 0 => decide (t.2.1 ≤ 0) && decide (0 ≤ t.2.2)
  | 1 => decide (t.2.1 ≤ 0) && decide (0 ≤ t.2.2)
  | 3 => true
  | 6 => true
  | _ => false
theorem okv_dv {t : Ty} (h : ok0 t = true) : okv E S t (dv t) := by
  obtain ⟨k, l, u⟩ := t
  match k, h with
  | 0, h => simpa [ok0, okv, dv] using h
  | 1, h => simpa [ok0, okv, dv] using h
  | 2, h => cases h
  | 3, h => exact Or.inl rfl
  | 4, h => cases h
  | 5, h => cases h
  | 6, h => exact Or.inl rfl
  | k + 7, h => cases h
def dfl (L j : Int) : Int := match lbls[L.toNat]? with
  | some (.inl (_, fs)) => dv (fs.getD j.toNat (0, 0, 0))
  | _ => 0
/-- a class whose objects may be made here -/
def Nw (own : String) (idx : Nat) (L : Int) (N : Nat) : Prop := ∃ (ci : Nat) (fs : List Ty) (C : String) (T : u_T) (ty : Nat → FieldType), lbls[L.toNat]? = some (.inl (ci, fs)) ∧ fs.length = N ∧ L ≠ 0 ∧ vwCl[ci]? = some (C, T, N) ∧ (∀ w ∈ u_ws C T N, w ∈ tb) ∧ (∀ k, k < N → parseFieldDescriptor (T k).2.2.1 = some (ty k)) ∧ Cond.classLink own idx C ∈ tb ∧ Cond.instantiable C N ∈ tb ∧ Cond.initialized C ∈ tb ∧ ∀ j, j < N → ok0 (fs.getD j (0, 0, 0)) = true ∧ defaultValue (ty j) = tv ((fs.getD j (0, 0, 0)).1, dv (fs.getD j (0, 0, 0)))
theorem r_new (hX : Cl E M as d mc ms Y X) (hP : Dec M.2.1 P) (hf : fd P pc = some (.new idx, 3)) {N : Nat} (hN : Nw M.1.cls idx L N) (hmc : cs + 1 ≤ mc) (hms : ss + N ≤ ms) (k : ∀ a : Int, S a = 0 → 0 ≤ a → X (cs + 1) (ss + N) (pc + 3) ((2, a) :: st) lo (sup S a L) (nwG G L a (dfl L))) : X cs ss pc st lo S G := by
  obtain ⟨p, e, z, m, below, meth, c, hx, hb, hr, hml, hown, hlk, hnm, hts, hK, rfl⟩ := hX
  obtain ⟨ci, fs, C, T, ty, n1, n2, n3, n4, n5, n6, n7, n8, n9, n10⟩ := hN
  intro H locs ls hR hz hL hl
  have hKn := hK.1.1 ci _ n4
  refine W.newcK hx hb hown (hts _ n7) (hts _ n8) (hts _ n9) rfl (fd_dec hP hf) hmc hms hKn.2.1 rfl fun H1 kC hkC e1 z1 o1 => ?_
  have hc : cel E (sup S (H.size : Nat) L) (nwG G L (H.size : Nat) (dfl L)) H1 L (H.size : Nat) := by
    unfold cel
    rw [n1]
    subst n2
    refine ⟨?_, fun j hj => ?_⟩
    · simp only [Int.toNat_natCast]
      refine (u_born ty hts n5 hKn hkC e1 n6).to (fun j hj => ?_)
      rw [nwG_self]
      show _ = tv ((fs.getD j (0, 0, 0)).1, dfl L j)
      unfold dfl
      rw [n1]
      simp only [Int.toNat_natCast]
      exact (n10 j hj).2
    · rw [nwG_self]
      unfold dfl
      rw [n1]
      simp only [Int.toNat_natCast]
      exact okv_dv (n10 j hj).1
  have k := k (H.size : Nat) (rep_fresh hR (Nat.le_refl _)) (Int.natCast_nonneg _) H1 locs ls (rep_new hR n3 z1 o1 hc) (by first | decide | omega) hL hl
  simp only [ts, List.map_cons] at k
  rw [tvM] at k
  exact k
/-- an array of numbers made here -/
theorem r_newarr (hX : Cl E M as d mc ms Y X) (hP : Dec M.2.1 P) {atype : ArrayType} (hf : fd P pc = some (.newarray atype, 2)) {t n : Nat} {y : Ty} (hA : Al L t n y) (ht : t < 4) (hty : newarray.typeOf atype = aty t) (hy : ok0 y = true) (hd0 : defaultValue (aty t) = tv (y.1, dv y)) (w1 : Cond.arrayClass (newarray.typeOf atype) ∈ tb) (hby : n * componentBytes (newarray.typeOf atype) ≤ 536870912) (hmc : cs + 1 ≤ mc) (hms : ss + n ≤ ms) (k : ∀ a : Int, S a = 0 → 0 ≤ a → X (cs + 1) (ss + n) (pc + 2) ((2, a) :: st) lo (sup S a L) (nwG G L a (fun _ => dv y))) : X cs ss pc ((0, (n : Int)) :: st) lo S G := by
  obtain ⟨p, e, z, m, below, meth, c, hx, hb, hr, hml, hown, hlk, hnm, hts, hK, rfl⟩ := hX
  intro H locs ls hR hz hL hl
  have hn : (Int32.ofInt (n : Int)).toInt = n := i32t (by first | decide | omega) (by have := hA.2.2; omega)
  have hn' : (Int32.ofInt (n : Int)).toNatClampNeg = n := by
    show (Int32.ofInt (n : Int)).toInt.toNat = n
    rw [hn]; rfl
  simp only [ts, List.map_cons]
  rw [tv0]
  refine va_newaK hx hb (hts _ w1) rfl (fd_dec hP hf) rfl (by rw [Int32.lt_iff_toInt_lt, hn, Int32.toInt_zero]; omega) hn' hby hmc hms rfl fun H1 cA e1 z1 o1 hAr hNm => ?_
  have eA : cA = E.2.2.1 t := by
    rw [hty, hK.2.2.1 t (by first | decide | omega)] at hNm
    exact (Option.some.inj hNm).symm
  subst eA
  have hc : cel E (sup S (H.size : Nat) L) (nwG G L (H.size : Nat) (fun _ => dv y)) H1 L (H.size : Nat) := by
    unfold cel
    rw [hA.1]
    simp only [Int.toNat_natCast]
    refine ⟨?_, fun j hj => by rw [nwG_self]; exact okv_dv hy⟩
    rw [e1, hty, hd0]
    congr 2
    funext j
    rw [nwG_self]
  have k := k (H.size : Nat) (rep_fresh hR (Nat.le_refl _)) (Int.natCast_nonneg _) H1 locs ls (rep_new hR hA.2.1 z1 o1 hc) (by first | decide | omega) hL hl
  simp only [ts, List.map_cons] at k
  rw [tvM] at k
  exact k
/-- a final field, in the object's own making -/
def Fpf (own : String) (idx : Nat) (L : Int) (j : Nat) (t : Ty) : Prop := Fl own idx L j t ∧ ∃ (ci N : Nat) (fs : List Ty) (C : String) (T : u_T) (ty : FieldType), lbls[L.toNat]? = some (.inl (ci, fs)) ∧ vwCl[ci]? = some (C, T, N) ∧ (T j).2.2.2 = true ∧ (T j).1 = own ∧ parseFieldDescriptor (T j).2.2.1 = some ty ∧ ∀ (E : En) (S : Sg) (x : Int), okv E S t x → narrow ty (tv (t.1, x)) = tv (t.1, x) ∧ fits ty (tv (t.1, x)) = true
theorem r_putF (hX : Cl E M as d mc ms Y X) (hP : Dec M.2.1 P) (hf : fd P pc = some (.putfield idx, 3)) (hi : M.1.name = "<init>") {j : Nat} {t : Ty} {v : Int} (hF : Fpf M.1.cls idx L j t) (hS : S a = L) (hv : okv E S t v) (k : X cs ss (pc + 3) st lo S (up G L a j v)) : X cs ss pc ((t.1, v) :: (2, a) :: st) lo S G := by
  obtain ⟨p, e, z, m, below, meth, c, hx, hb, hr, hml, hown, hlk, hnm, hts, hK, rfl⟩ := hX
  obtain ⟨⟨ci, N, fs, C, T, f1, f2, f3, f4, f5, f6, f7, f8⟩, ci', N', fs', C', T', ty, g1, g2, g3, g3', g4, g5⟩ := hF
  cases f1.symm.trans g1
  cases f6.symm.trans g2
  intro H locs ls hR hz hL hl
  obtain ⟨ha, hb0, hc⟩ := rep_at hR hS f5
  unfold cel at hc
  rw [f1] at hc
  obtain ⟨⟨cell, c1, c2, c3, c4⟩, c5⟩ := hc
  obtain ⟨w1, ⟨ty0, w2⟩, w3⟩ := f7.tw f6
  have hap := va_apart (own := M.1.cls) hts w1 ty0 w2 w3 hK.1 f6
  obtain ⟨hSl, hfc, kC, hkC, hkind⟩ := hK.1.1 ci _ f6
  obtain ⟨cf, kf, fi, f, hi', hsl⟩ := hSl j f3
  have hlay := hts _ (w1 _ (u_in_lay f3))
  unfold u_lay at hlay
  rw [if_pos g3] at hlay
  have hst := (u_facts hfc hkC (u_lays hts w1 f3) hi').1
  have hcf : m.cls = cf := by
    obtain ⟨_, _, c', _, _, _, -, -, hf', -, -, -, hown2, -⟩ := Cond.laysFinal_spec hlay
    have e1 : c' = cf := by have := hi'.symm.trans hf'; simp at this; exact this.1.symm
    rw [g3'] at hown2
    rw [← e1]; exact Option.some.inj (hown.symm.trans hown2)
  have h6 := u_fits hfc hkC hkind (Or.inr hlay) hi' g4 (g5 E S v hv).1 (g5 E S v hv).2
  simp only [ts, List.map_cons]
  rw [tv2 ha]
  refine W.putFinK hx hb hown (hts _ f8) hi' hst hcf (hnm.trans hi) (by rw [c2]; exact h6) c1 c3 (by rw [hsl]; exact k2_hasslot (c4 j (by first | decide | omega))) rfl rfl (fd_dec hP hf) fun H' e1 e2 e3 => ?_
  rw [hsl] at e1 ⊢
  refine k H' _ ls (rep_up hR hS f5 e2 e3 ?_) (by rw [e2]; exact hz) ?_ hl
  · unfold cel
    rw [f1]
    subst f2
    refine ⟨t_OB.to ⟨_, e1, c2, c3, t_set c4 hap f3 (tv (t.1, v))⟩ (fun i hi => ?_), fun i hi => ?_⟩
    · by_cases ei : i = j
      · subst ei
        simp only [updV, if_true]
        rw [up_self, f4]
      · simp only [updV, if_neg ei]
        rw [up_ne (fun q => ei (by first | decide | omega))]
    · by_cases ei : i = j
      · subst ei
        rw [up_self, f4]
        exact hv
      · rw [up_ne (fun q => ei (by first | decide | omega))]
        exact c5 i hi
  · intro q hq
    rcases List.mem_append.mp hq with h | h
    · exact hL q h
    · rw [List.mem_singleton.mp h]
      exact hb0
/-- an object's own making, called -/
def Ci (own : String) (idx : Nat) (M' : Mk) (n : Nat) : Prop := Co M' n ∧ Cond.methodLink own idx M'.1 ∈ tb ∧ M'.1.name = "<init>" ∧ Cond.instanceMethod M'.1 ∈ tb ∧ M'.2.2.2 = none
theorem r_callI (hG : Gd) (hX : Cl E M as d mc ms Y X) (hP : Dec M.2.1 P) (hf : fd P pc = some (.invokespecial idx, 3)) {M' : Mk} {n d' mc' ms' : Nat} {as' : List Vl} {stk : List Vl} {Y' : Option Vl → Sg → Gh → Prop} (hC : Ci M.1.cls idx M' n) (h0 : 0 ≤ a) (hd : d' + 1 ≤ d) (hmc : cs + mc' ≤ mc) (hms : ss + ms' ≤ ms) (hn : as'.length = n) (hstk : stk = as'.reverse ++ (2, a) :: st) (hsc : sc st ≤ 8)
    (hc : Calls E M' ((2, a) :: as') S G d' mc' ms' Y') (k : ∀ r S' G', Y' r S' G' → X (cs + mc') (ss + ms') (pc + 3) (r.toList ++ st) lo S' G') : X cs ss pc stk lo S G := by
  obtain ⟨p, e, z, m, below, meth, c, hx, hb, hr, hml, hown, hlk, hnm, hts, hK, rfl⟩ := hX
  obtain ⟨h1, h2, h3, h4, h5⟩ := hC
  intro H locs ls hR hz hL hl
  have eas : ts ((2, a) :: as') = Value.ref a.toNat :: ts as' := by
    show tv (2, a) :: ts as' = _
    rw [tv2 h0]
  have hp : PreS z H (Pq E ((2, a) :: as') S G) (Value.ref a.toNat :: ts as') := ⟨blind _ _ _ _, fun U hU hW => ⟨by rw [eas], hK.warm hW, by rw [hU]; exact hR⟩⟩
  have cb := cb_of (mc := mc) (ms := ms) (mc' := mc') (ms' := ms') hG hts h1 h2 hd
  rw [h5] at cb
  refine run_go (va_runI (As := ts as') (rest := ts st) ⟨hx, hb, hml, hown, hts⟩ hc ⟨cb, h3, hts _ h4⟩ hp rfl (by rw [← hn]; exact List.length_map ..) hl.1 ?_ (lv_room (by rw [sc_ok]; exact hsc)) (fd_dec hP hf) ⟨hmc, hms⟩) hz hL (fun r S' G' H1 locs1 hY hR1 hz1 hL1 => ?_)
  · show ts stk = _
    rw [hstk, ts_app, ts_rev]
    show _ ++ tv (2, a) :: ts st = _
    rw [tv2 h0]
  · have := k r S' G' hY H1 locs1 ls hR1 hz1 hL1 hl
    rw [ts_app] at this
    exact this
theorem r_objI (hX : Cl E M as d mc ms Y X) (hP : Dec M.2.1 P) (hf : fd P pc = some (.invokespecial idx, 3)) (w1 : Cond.methodLink M.1.cls idx objectInit ∈ tb) (w2 : Cond.instanceMethod objectInit ∈ tb) (w3 : Cond.code objectInit ⟨#[0xb1]⟩ 1 none ∈ tb) (h0 : 0 ≤ a) (hd : 1 ≤ d) (hsc : sc st ≤ 8) (k : X cs ss (pc + 3) st lo S G) : X cs ss pc ((2, a) :: st) lo S G := by
  obtain ⟨p, e, z, m, below, meth, c, hx, hb, hr, hml, hown, hlk, hnm, hts, hK, rfl⟩ := hX
  intro H locs ls hR hz hL hl
  have k := k H locs ls hR hz hL hl
  simp only [ts, List.map_cons] at k ⊢
  rw [tv2 h0]
  refine W.objInit hx hb hown (hts _ w1) (hts _ w2) (hts _ w3) rfl (by rw [hml]; exact hl.1) rfl (fd_dec hP hf) (show 1 ≤ d from hd) ?_ k
  show 2 * 0 + ((ts st).map fun v => v.category).sum + (1 + 11) ≤ 100 * d
  rw [sc_ok]
  omega
/-- a label whose objects nobody points at may be changed for another -/
def nrf (L : Int) (t : Ty) : Bool := match t.1 with
  | 0 => true
  | 1 => true
  | 5 => decide (L < t.2.1) || decide (t.2.2 < L)
  | 6 => true
  | _ => decide (t.2.1 ≠ L)
def norf (L : Int) : Bool := lbls.all (fun q => match q with
  | .inl (_, fs) => fs.all (nrf L)
  | .inr (_, _, y) => nrf L y)
theorem okv_rl {t : Ty} {x L' : Int} (hS : S a = L) (h : nrf L t = true) (ho : okv E S t x) : okv E (sup S a L') t x := by
  obtain ⟨k, l, u⟩ := t
  have ne : ∀ {l : Int}, l ≠ L → S x = l → sup S a L' x = l := fun hl hx => by
    rw [sup_ne (fun e => hl (by rw [← hx, e]; exact hS))]
    exact hx
  match k, h, ho with
  | 0, h, ho => exact ho
  | 1, h, ho => exact ho
  | 2, h, ho => exact ⟨ne (of_decide_eq_true h) ho.1, ho.2⟩
  | 3, h, ho => exact ho.imp id (fun ho => ⟨ne (of_decide_eq_true h) ho.1, ho.2⟩)
  | 4, h, ho => exact ⟨ho.1, ne (of_decide_eq_true h) ho.2.1, ho.2.2⟩
  | 5, h, ho =>
    refine ho.imp id (fun ho => ?_)
    have h1 : (decide (L < l) || decide (u < L)) = true := h
    have o1 : l ≤ S x := ho.1
    have o2 : S x ≤ u := ho.2.1
    have hx : x ≠ a := fun e => by
      rw [e, hS] at o1 o2
      simp at h1
      omega
    show l ≤ sup S a L' x ∧ sup S a L' x ≤ u ∧ 0 < l
    rw [sup_ne hx]
    exact ho
  | 6, h, ho => exact ho
  | k + 7, h, ho => exact ⟨ho.1, ne (of_decide_eq_true h) ho.2.1, ho.2.2⟩
def mvG (G : Gh) (L a L' : Int) : Gh := fun M b j => if M = L' ∧ b = a then G L a j else G M b j
theorem mvG_self (G : Gh) (L a L' j : Int) : mvG G L a L' L' a j = G L a j := if_pos ⟨rfl, rfl⟩
theorem mvG_ne {G : Gh} {L a L' M b j : Int} (h : ¬ (M = L' ∧ b = a)) : mvG G L a L' M b j = G M b j := if_neg h
def Rl (L L' : Int) : Prop := ∃ (ci : Nat) (fs fs' : List Ty), lbls[L.toNat]? = some (.inl (ci, fs)) ∧ lbls[L'.toNat]? = some (.inl (ci, fs')) ∧ fs.length = fs'.length ∧ L ≠ 0 ∧ L' ≠ 0 ∧ norf L = true ∧ (∀ j, j < fs'.length → (fs.getD j (0, 0, 0)).1 = (fs'.getD j (0, 0, 0)).1 ∨ (2 ≤ (fs.getD j (0, 0, 0)).1 ∧ 2 ≤ (fs'.getD j (0, 0, 0)).1))
theorem tv_22 {i j : Nat} {x : Int} (h : i = j ∨ (2 ≤ i ∧ 2 ≤ j)) : tv (i, x) = tv (j, x) := by
  rcases h with rfl | ⟨h1, h2⟩
  · rfl
  · match i, j, h1, h2 with
    | i + 2, j + 2, _, _ => rfl
def fsl (L : Int) : List Ty := match lbls[L.toNat]? with
  | some (.inl (_, fs)) => fs
  | _ => []
theorem norf_in {L L' : Int} (h : norf L = true) {ci : Nat} {fs : List Ty} (hl : lbls[L'.toNat]? = some (.inl (ci, fs))) (j : Nat) : nrf L (fs.getD j (0, 0, 0)) = true := by
  have h1 := List.all_eq_true.mp h _ (List.mem_of_getElem? hl)
  rw [List.getD_eq_getElem?_getD]
  cases e : fs[j]? with
  | none => rfl
  | some t => exact List.all_eq_true.mp h1 t (List.mem_of_getElem? e)
theorem norf_ar {L L' : Int} (h : norf L = true) {t n : Nat} {y : Ty} (hl : lbls[L'.toNat]? = some (.inr (t, n, y))) : nrf L y = true := List.all_eq_true.mp h _ (List.mem_of_getElem? hl)
theorem r_relab (hX : Cl E M as d mc ms Y X) {L' : Int} (hS : S a = L) (hR : Rl L L') (ho : ∀ j : Nat, j < (fsl L').length → okv E (sup S a L') ((fsl L').getD j (0, 0, 0)) (G L a j)) (k : X cs ss pc st lo (sup S a L') (mvG G L a L')) : X cs ss pc st lo S G := by
  obtain ⟨p, e, z, m, below, meth, c, hx, hb, hr, hml, hown, hlk, hnm, hts, hK, rfl⟩ := hX
  obtain ⟨ci, fs, fs', r1, r2, r3, r4, r5, r6, r7⟩ := hR
  intro H locs ls hR hz hL hl
  have ef : fsl L' = fs' := by unfold fsl; rw [r2]
  rw [ef] at ho
  refine k H locs ls ⟨hR.1, hR.2.1, fun a' h' => ?_⟩ hz hL hl
  by_cases ea : a' = a
  · subst ea
    rw [sup_self]
    obtain ⟨g1, g2, g3⟩ := hR.2.2 a' (by rw [hS]; exact r4)
    refine ⟨g1, g2, ?_⟩
    rw [hS] at g3
    unfold cel at g3 ⊢
    rw [r1] at g3
    rw [r2]
    simp only at g3 ⊢
    refine ⟨?_, fun j hj => by rw [mvG_self]; exact ho j hj⟩
    rw [← r3]
    refine g3.1.to (fun j hj => ?_)
    rw [mvG_self]
    exact tv_22 (r7 j (by first | decide | omega))
  · rw [sup_ne ea] at h' ⊢
    obtain ⟨g1, g2, g3⟩ := hR.2.2 a' h'
    refine ⟨g1, g2, ?_⟩
    have g4 : cel E S (mvG G L a L') H (S a') a' := cel_frame g3 rfl (fun j => mvG_ne (fun q => ea q.2))
    revert g4
    unfold cel
    cases eq : lbls[(S a').toNat]? with
    | none => exact id
    | some q =>
      rcases q with ⟨ci', gs⟩ | ⟨t, n, y⟩
      · exact fun h => ⟨h.1, fun j hj => okv_rl hS (norf_in r6 eq j) (h.2 j hj)⟩
      · exact fun h => ⟨h.1, fun j hj => okv_rl hS (norf_ar r6 eq) (h.2 j hj)⟩
end RUA
