section RUS
variable {E : En} {M : Mk} {as : List Vl} {d mc ms : Nat} {Y : Option Vl → Sg → Gh → Prop} {X : Xp} {cs ss : Nat} {S : Sg} {G : Gh} {P : Cod} {pc tgt idx : Nat} {st : List Vl} {lo : Lo} {x y off a L : Int}
theorem cel_frame {S : Sg} {G G' : Gh} {H H' : Heap} (h : cel E S G H L a) (hH : H'[a.toNat]? = H[a.toNat]?) (hG : ∀ j : Int, G' L a j = G L a j) : cel E S G' H' L a := by
  unfold cel at h ⊢
  split at h
  · simp only [hG]
    exact ⟨h.1.kept hH, h.2⟩
  · simp only [hG]
    exact ⟨by rw [hH]; exact h.1, h.2⟩
  · exact h
theorem rep_up {H H' : Heap} {j v : Int} (h : rep E S G H) (hS : S a = L) (hL : L ≠ 0) (z : H'.size = H.size) (o : ∀ q : Nat, q ≠ a.toNat → H'[q]? = H[q]?) (hc : cel E S (up G L a j v) H' L a) : rep E S (up G L a j v) H' := by
  obtain ⟨ha, hb, -⟩ := rep_at h hS hL
  refine ⟨by rw [z]; exact h.1, fun q hq => by rw [o q (by omega)]; exact h.2.1 q hq, fun a' h' => ?_⟩
  obtain ⟨g1, g2, g3⟩ := h.2.2 a' h'
  refine ⟨g1, g2, ?_⟩
  by_cases e : a' = a
  · subst e
    rw [hS]
    exact hc
  · exact cel_frame g3 (o _ (by omega)) (fun j' => up_ne (fun q => e q.2.1))
theorem okv_S {t : Ty} {S : Sg} {G : Gh} {n : Nat} {j v : Int} {i : Nat} (h : okv E S t (G L a i)) (hv : okv E S t v) : okv E S t (up G L a j v L a i) := by
  by_cases e : (i : Int) = j
  · rw [e, up_self]; exact hv
  · rw [up_ne (fun q => e q.2.2)]; exact h
theorem r_iast (hX : Cl E M as d mc ms Y X) (hP : Dec M.2.1 P) (hf : fd P pc = some (.iastore, 1)) {n : Nat} {l h i v : Int} (hA : Al L 0 n (0, l, h)) (hS : S a = L) (i1 : 0 ≤ i) (i2 : i < n) (v1 : l ≤ v) (v2 : v ≤ h) (k : X cs ss (pc + 1) st lo S (up G L a i v)) : X cs ss pc ((0, v) :: (0, i) :: (2, a) :: st) lo S G := by
  obtain ⟨p, e, z, m, below, meth, c, hx, hb, hr, hml, hown, hlk, hnm, hts, hK, rfl⟩ := hX
  intro H locs ls hR hz hL hl
  obtain ⟨ha, hb0, hc, ho⟩ := arr_at hR hA hS
  obtain ⟨q1, q2⟩ := ix_in i1 i2 hA.2.2
  have hi : ((i.toNat : Nat) : Int) = i := by omega
  simp only [ts, List.map_cons]
  rw [tv2 ha, tv0, tv0]
  refine W.iast hx hb hc (hK.2.1 0 n (fun j => tv (0, G L a j))) (fun q => by cases q) (by rw [arrV_size]; exact q1) rfl rfl (fd_dec hP hf) fun H' e1 e2 e3 => ?_
  refine k H' _ ls (rep_up hR hS hA.2.1 e2 e3 ?_) (by rw [e2]; exact hz) ?_ hl
  · unfold cel
    rw [hA.1]
    refine ⟨?_, fun j hj => okv_S (n := n) (ho j hj) ⟨v1, v2⟩⟩
    rw [e1, q2, arrV_store]
    congr 2
    funext j
    by_cases ej : j = i.toNat
    · subst ej
      simp only [updV, if_true]
      rw [hi, up_self]; rfl
    · simp only [updV, if_neg ej]
      rw [up_ne (fun q => ej (by omega))]
  · intro q hq
    rcases List.mem_append.mp hq with h9 | h9
    · exact hL q h9
    · rw [List.mem_singleton.mp h9]
      exact hb0
theorem r_last (hX : Cl E M as d mc ms Y X) (hP : Dec M.2.1 P) (hf : fd P pc = some (.lastore, 1)) {n : Nat} {l h i v : Int} (hA : Al L 1 n (1, l, h)) (hS : S a = L) (i1 : 0 ≤ i) (i2 : i < n) (v1 : l ≤ v) (v2 : v ≤ h) (k : X cs ss (pc + 1) st lo S (up G L a i v)) : X cs ss pc ((1, v) :: (0, i) :: (2, a) :: st) lo S G := by
  obtain ⟨p, e, z, m, below, meth, c, hx, hb, hr, hml, hown, hlk, hnm, hts, hK, rfl⟩ := hX
  intro H locs ls hR hz hL hl
  obtain ⟨ha, hb0, hc, ho⟩ := arr_at hR hA hS
  obtain ⟨q1, q2⟩ := ix_in i1 i2 hA.2.2
  have hi : ((i.toNat : Nat) : Int) = i := by omega
  simp only [ts, List.map_cons]
  rw [tv2 ha, tv0, tv1]
  refine W.last hx hb hc (hK.2.1 1 n (fun j => tv (1, G L a j))) (fun q => by cases q) (by rw [arrV_size]; exact q1) rfl rfl (fd_dec hP hf) fun H' e1 e2 e3 => ?_
  refine k H' _ ls (rep_up hR hS hA.2.1 e2 e3 ?_) (by rw [e2]; exact hz) ?_ hl
  · unfold cel
    rw [hA.1]
    refine ⟨?_, fun j hj => okv_S (n := n) (ho j hj) ⟨v1, v2⟩⟩
    rw [e1, q2, arrV_store]
    congr 2
    funext j
    by_cases ej : j = i.toNat
    · subst ej
      simp only [updV, if_true]
      rw [hi, up_self]; rfl
    · simp only [updV, if_neg ej]
      rw [up_ne (fun q => ej (by omega))]
  · intro q hq
    rcases List.mem_append.mp hq with h9 | h9
    · exact hL q h9
    · rw [List.mem_singleton.mp h9]
      exact hb0
theorem r_bast (hX : Cl E M as d mc ms Y X) (hP : Dec M.2.1 P) (hf : fd P pc = some (.bastore, 1)) {n : Nat} {l h i v : Int} (hA : Al L 2 n (0, l, h)) (hS : S a = L) (i1 : 0 ≤ i) (i2 : i < n) (v1 : l ≤ v) (v2 : v ≤ h) (b1 : -128 ≤ v) (b2 : v ≤ 127) (k : X cs ss (pc + 1) st lo S (up G L a i v)) : X cs ss pc ((0, v) :: (0, i) :: (2, a) :: st) lo S G := by
  obtain ⟨p, e, z, m, below, meth, c, hx, hb, hr, hml, hown, hlk, hnm, hts, hK, rfl⟩ := hX
  intro H locs ls hR hz hL hl
  obtain ⟨ha, hb0, hc, ho⟩ := arr_at hR hA hS
  obtain ⟨q1, q2⟩ := ix_in i1 i2 hA.2.2
  have hi : ((i.toNat : Nat) : Int) = i := by omega
  have hn : narrow .byte (.int (Int32.ofInt v)) = tv (0, v) := by
    rw [narrow_byte, tv0]
    congr 1
    apply Int32.toInt_inj.mp
    rw [Int8.toInt_toInt32, Int32.toInt_toInt8, i32t (by omega) (by omega)]
    rw [Int.bmod_def]; omega
  simp only [ts, List.map_cons]
  rw [tv2 ha, tv0, tv0]
  refine W.bast hx hb hc (hK.2.1 2 n (fun j => tv (0, G L a j))) (fun q => by cases q) (by rw [arrV_size]; exact q1) rfl rfl (fd_dec hP hf) fun H' e1 e2 e3 => ?_
  refine k H' _ ls (rep_up hR hS hA.2.1 e2 e3 ?_) (by rw [e2]; exact hz) ?_ hl
  · unfold cel
    rw [hA.1]
    refine ⟨?_, fun j hj => okv_S (n := n) (ho j hj) ⟨v1, v2⟩⟩
    rw [e1, q2, hn, arrV_store]
    congr 2
    funext j
    by_cases ej : j = i.toNat
    · subst ej
      simp only [updV, if_true]
      rw [hi, up_self]
    · simp only [updV, if_neg ej]
      rw [up_ne (fun q => ej (by omega))]
  · intro q hq
    rcases List.mem_append.mp hq with h9 | h9
    · exact hL q h9
    · rw [List.mem_singleton.mp h9]
      exact hb0
theorem r_zast (hX : Cl E M as d mc ms Y X) (hP : Dec M.2.1 P) (hf : fd P pc = some (.bastore, 1)) {n : Nat} {l h i v : Int} (hA : Al L 3 n (0, l, h)) (hS : S a = L) (i1 : 0 ≤ i) (i2 : i < n) (v1 : l ≤ v) (v2 : v ≤ h) (b1 : 0 ≤ v) (b2 : v ≤ 1) (k : X cs ss (pc + 1) st lo S (up G L a i v)) : X cs ss pc ((0, v) :: (0, i) :: (2, a) :: st) lo S G := by
  obtain ⟨p, e, z, m, below, meth, c, hx, hb, hr, hml, hown, hlk, hnm, hts, hK, rfl⟩ := hX
  intro H locs ls hR hz hL hl
  obtain ⟨ha, hb0, hc, ho⟩ := arr_at hR hA hS
  obtain ⟨q1, q2⟩ := ix_in i1 i2 hA.2.2
  have hi : ((i.toNat : Nat) : Int) = i := by omega
  have hn : narrow .boolean (.int (Int32.ofInt v)) = tv (0, v) := by
    rcases (by omega : v = 0 ∨ v = 1) with rfl | rfl <;> rfl
  simp only [ts, List.map_cons]
  rw [tv2 ha, tv0, tv0]
  refine W.zast hx hb hc (hK.2.1 3 n (fun j => tv (0, G L a j))) (fun q => by cases q) (by rw [arrV_size]; exact q1) rfl rfl (fd_dec hP hf) fun H' e1 e2 e3 => ?_
  refine k H' _ ls (rep_up hR hS hA.2.1 e2 e3 ?_) (by rw [e2]; exact hz) ?_ hl
  · unfold cel
    rw [hA.1]
    refine ⟨?_, fun j hj => okv_S (n := n) (ho j hj) ⟨v1, v2⟩⟩
    rw [e1, q2, hn, arrV_store]
    congr 2
    funext j
    by_cases ej : j = i.toNat
    · subst ej
      simp only [updV, if_true]
      rw [hi, up_self]
    · simp only [updV, if_neg ej]
      rw [up_ne (fun q => ej (by omega))]
  · intro q hq
    rcases List.mem_append.mp hq with h9 | h9
    · exact hL q h9
    · rw [List.mem_singleton.mp h9]
      exact hb0
/-- a field that may be stored to -/
def Fp (own : String) (idx : Nat) (L : Int) (j : Nat) (t : Ty) : Prop := Fl own idx L j t ∧ ∃ (ci N : Nat) (fs : List Ty) (C : String) (T : u_T) (ty : FieldType), lbls[L.toNat]? = some (.inl (ci, fs)) ∧ vwCl[ci]? = some (C, T, N) ∧ (T j).2.2.2 = false ∧ parseFieldDescriptor (T j).2.2.1 = some ty ∧ ∀ (E : En) (S : Sg) (x : Int), okv E S t x → narrow ty (tv (t.1, x)) = tv (t.1, x) ∧ fits ty (tv (t.1, x)) = true
theorem r_put (hX : Cl E M as d mc ms Y X) (hP : Dec M.2.1 P) (hf : fd P pc = some (.putfield idx, 3)) {j : Nat} {t : Ty} {v : Int} (hF : Fp M.1.cls idx L j t) (hS : S a = L) (hv : okv E S t v) (k : X cs ss (pc + 3) st lo S (up G L a j v)) : X cs ss pc ((t.1, v) :: (2, a) :: st) lo S G := by
  obtain ⟨p, e, z, m, below, meth, c, hx, hb, hr, hml, hown, hlk, hnm, hts, hK, rfl⟩ := hX
  obtain ⟨⟨ci, N, fs, C, T, f1, f2, f3, f4, f5, f6, f7, f8⟩, ci', N', fs', C', T', ty, g1, g2, g3, g4, g5⟩ := hF
  cases f1.symm.trans g1
  cases f6.symm.trans g2
  intro H locs ls hR hz hL hl
  obtain ⟨ha, hb0, hc⟩ := rep_at hR hS f5
  unfold cel at hc
  rw [f1] at hc
  obtain ⟨⟨cell, c1, c2, c3, c4⟩, c5⟩ := hc
  obtain ⟨w1, ⟨ty0, w2⟩, w3⟩ := f7.tw f6
  have hap := va_apart (own := M.1.cls) hts w1 ty0 w2 w3 hK.1 f6
  obtain ⟨hSl, hfc, kC, hkC, hkind⟩ := hK.1.1 ci _ f6
  obtain ⟨cf, kf, fi, f, hi, hsl⟩ := hSl j f3
  have hlay := hts _ (w1 _ (u_in_lay f3))
  unfold u_lay at hlay
  rw [if_neg (by rw [g3]; decide)] at hlay
  have hst := (u_facts hfc hkC (u_lays hts w1 f3) hi).1
  have h6 := u_store hfc hkC hkind hlay hi g4 (g5 E S v hv).1 (g5 E S v hv).2
  simp only [ts, List.map_cons]
  rw [tv2 ha]
  refine W.putK hx hb (f := f) ⟨hown, hts _ f8, ⟨_, _, _, hi⟩, hst⟩ (by rw [c2]; exact h6) c1 c3 (by rw [hsl]; exact k2_hasslot (c4 j (by omega))) rfl rfl (fd_dec hP hf) fun H' e1 e2 e3 => ?_
  rw [hsl] at e1 ⊢
  refine k H' _ ls (rep_up hR hS f5 e2 e3 ?_) (by rw [e2]; exact hz) ?_ hl
  · unfold cel
    rw [f1]
    subst f2
    refine ⟨t_OB.to ⟨_, e1, c2, c3, t_set c4 hap f3 (tv (t.1, v))⟩ (fun i hi => ?_), fun i hi => ?_⟩
    · by_cases ei : i = j
      · subst ei
        simp only [updV, if_true]
        rw [f4, up_self]
      · simp only [updV, if_neg ei]
        rw [up_ne (fun q => ei (by omega))]
    · by_cases ei : i = j
      · subst ei
        rw [f4, up_self]
        exact hv
      · rw [up_ne (fun q => ei (by omega))]
        exact c5 i hi
  · intro q hq
    rcases List.mem_append.mp hq with h9 | h9
    · exact hL q h9
    · rw [List.mem_singleton.mp h9]
      exact hb0
theorem r_putI (hX : Cl E M as d mc ms Y X) (hP : Dec M.2.1 P) (hf : fd P pc = some (.putfield idx, 3)) {j : Nat} {l h v : Int} (hF : Fp M.1.cls idx L j (0, l, h)) (hS : S a = L) (v1 : l ≤ v) (v2 : v ≤ h) (k : X cs ss (pc + 3) st lo S (up G L a j v)) : X cs ss pc ((0, v) :: (2, a) :: st) lo S G := r_put hX hP hf hF hS ⟨v1, v2⟩ k
theorem r_putL (hX : Cl E M as d mc ms Y X) (hP : Dec M.2.1 P) (hf : fd P pc = some (.putfield idx, 3)) {j : Nat} {l h v : Int} (hF : Fp M.1.cls idx L j (1, l, h)) (hS : S a = L) (v1 : l ≤ v) (v2 : v ≤ h) (k : X cs ss (pc + 3) st lo S (up G L a j v)) : X cs ss pc ((1, v) :: (2, a) :: st) lo S G := r_put hX hP hf hF hS ⟨v1, v2⟩ k
end RUS
