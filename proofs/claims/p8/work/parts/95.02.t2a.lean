section TKL
variable {T : Tp} {n p a e s : Int}
theorem scn_orB : (p < n ∧ (T p = 32 ∨ T p = 10) ∧ scn cB T n p = scn cB T n (p + 1)) ∨ ((n ≤ p ∨ (T p ≠ 32 ∧ T p ≠ 10)) ∧ scn cB T n p = p) := by
  by_cases h : p < n ∧ cB (T p) = true
  · exact Or.inl ⟨h.1, cB_iff.mp h.2, scn_go h.1 h.2⟩
  · refine Or.inr ⟨?_, scn_end h⟩
    by_cases h1 : p < n
    · have h2 : ¬ (T p = 32 ∨ T p = 10) := fun q => h ⟨h1, cB_iff.mpr q⟩
      omega
    · omega
theorem scn_orL : (p < n ∧ 97 ≤ T p ∧ T p ≤ 122 ∧ scn cL T n p = scn cL T n (p + 1)) ∨ ((n ≤ p ∨ T p < 97 ∨ 122 < T p) ∧ scn cL T n p = p) := by
  by_cases h : p < n ∧ cL (T p) = true
  · exact Or.inl ⟨h.1, (cL_iff.mp h.2).1, (cL_iff.mp h.2).2, scn_go h.1 h.2⟩
  · refine Or.inr ⟨?_, scn_end h⟩
    by_cases h1 : p < n
    · have h2 : ¬ (97 ≤ T p ∧ T p ≤ 122) := fun q => h ⟨h1, cL_iff.mpr q⟩
      omega
    · omega
theorem scn_orD : (p < n ∧ 48 ≤ T p ∧ T p ≤ 57 ∧ scn cD T n p = scn cD T n (p + 1)) ∨ ((n ≤ p ∨ T p < 48 ∨ 57 < T p) ∧ scn cD T n p = p) := by
  by_cases h : p < n ∧ cD (T p) = true
  · exact Or.inl ⟨h.1, (cD_iff.mp h.2).1, (cD_iff.mp h.2).2, scn_go h.1 h.2⟩
  · refine Or.inr ⟨?_, scn_end h⟩
    by_cases h1 : p < n
    · have h2 : ¬ (48 ≤ T p ∧ T p ≤ 57) := fun q => h ⟨h1, cD_iff.mpr q⟩
      omega
    · omega
theorem dv_or (h : s ≤ e) : (e - s < 7 ∧ dgv T s (e + 1) = dgv T s e * 10 + T e - 48) ∨ (7 ≤ e - s ∧ dgv T s (e + 1) = dgv T s e) := by
  by_cases h7 : e - s < 7
  · exact Or.inl ⟨h7, dv_lo h h7⟩
  · exact Or.inr ⟨by omega, dv_hi h (by first | decide | omega)⟩
theorem dv_bdo (h1 : s ≤ e) (h2 : e ≤ scn cD T n s) : 7 ≤ e - s ∨ (0 ≤ dgv T s e ∧ dgv T s e ≤ 999999) := by
  by_cases h7 : e - s < 7
  · exact Or.inr (dv_bd h1 h2 h7)
  · exact Or.inl (by first | decide | omega)
theorem tk_end (h : tkS T n p = a) (h2 : n ≤ a) : tkK T n p = 0 ∧ tkE T n p = a := by
  subst h
  exact ⟨tkK_zero.mpr h2, if_pos h2⟩
theorem tk_wd (h : tkS T n p = a) (h2 : a < n) (l1 : 97 ≤ T a) (l2 : T a ≤ 122) (h3 : scn cL T n a = e) : tkK T n p = 1 ∧ tkE T n p = e := by
  subst h
  have hl : cL (T (tkS T n p)) = true := cL_iff.mpr ⟨l1, l2⟩
  unfold tkK tkE
  rw [if_neg (by first | decide | omega), if_pos hl, if_neg (by first | decide | omega), if_pos hl]
  exact ⟨rfl, h3⟩
theorem tk_nm (h : tkS T n p = a) (h2 : a < n) (l1 : 48 ≤ T a) (l2 : T a ≤ 57) (h3 : scn cD T n a = e) : ((e - a ≤ 7 ∧ tkK T n p = 2) ∨ (7 < e - a ∧ tkK T n p = 3)) ∧ tkE T n p = e ∧ tkV T n p = dgv T a e := by
  subst h
  have hl : ¬ cL (T (tkS T n p)) = true := fun q => by have := cL_iff.mp q; omega
  have hd : cD (T (tkS T n p)) = true := cD_iff.mpr ⟨l1, l2⟩
  have hE : tkE T n p = e := by
    unfold tkE
    rw [if_neg (by first | decide | omega), if_neg hl, if_pos hd]
    exact h3
  refine ⟨?_, hE, ?_⟩
  · unfold tkK
    rw [if_neg (by first | decide | omega), if_neg hl, if_pos hd, h3]
    by_cases q : 7 < e - tkS T n p
    · rw [if_pos q]
      exact Or.inr ⟨q, rfl⟩
    · rw [if_neg q]
      exact Or.inl ⟨by omega, rfl⟩
  · unfold tkV
    rw [hE]
theorem tk_sg_aux (h : tkS T n p = a) (h2 : a < n) (nl : T a < 97 ∨ 122 < T a) (nd : T a < 48 ∨ 57 < T a) : tkK T n p = (if cS (T a) = true then T a else 3) ∧ tkE T n p = a + 1 := by
  subst h
  have hl : ¬ cL (T (tkS T n p)) = true := fun q => by have := cL_iff.mp q; omega
  have hd : ¬ cD (T (tkS T n p)) = true := fun q => by have := cD_iff.mp q; omega
  have h0 : ¬ n ≤ tkS T n p := by omega
  unfold tkK tkE
  rw [if_neg h0, if_neg hl, if_neg hd, if_neg h0, if_neg hl, if_neg hd]
  exact ⟨rfl, rfl⟩
theorem tk_sgY (h : tkS T n p = a) (h2 : a < n) (nl : T a < 97 ∨ 122 < T a) (nd : T a < 48 ∨ 57 < T a) (c : T a = 59 ∨ T a = 123 ∨ T a = 125 ∨ T a = 60 ∨ T a = 62) : tkK T n p = T a ∧ tkE T n p = a + 1 := by
  have q := tk_sg_aux h h2 nl nd
  rw [if_pos (cS_iff.mpr c)] at q
  exact q
theorem tk_sgN (h : tkS T n p = a) (h2 : a < n) (nl : T a < 97 ∨ 122 < T a) (nd : T a < 48 ∨ 57 < T a) (c : T a ≠ 59 ∧ T a ≠ 123 ∧ T a ≠ 125 ∧ T a ≠ 60 ∧ T a ≠ 62) : tkK T n p = 3 ∧ tkE T n p = a + 1 := by
  have q := tk_sg_aux h h2 nl nd
  rw [if_neg (fun w => by have := cS_iff.mp w; omega)] at q
  exact q
end TKL
theorem wq_or (T : Tp) (n p : Int) (k : Nat) : (tkK T n p = 1 ∧ tkE T n p - tkS T n p = wL k ∧ wq T n p k = eqv (fun i => T (tkS T n p + i)) (wC k) (wL k) 0) ∨ ((tkK T n p ≠ 1 ∨ tkE T n p - tkS T n p ≠ wL k) ∧ wq T n p k = 0) := by
  unfold wq
  by_cases h : tkK T n p = 1
  · by_cases h2 : tkE T n p - tkS T n p = wL k
    · rw [if_pos h, if_pos h2]
      exact Or.inl ⟨h, h2, rfl⟩
    · rw [if_pos h, if_neg h2]
      exact Or.inr ⟨Or.inr h2, rfl⟩
  · rw [if_neg h]
    exact Or.inr ⟨Or.inl h, rfl⟩
theorem eqw_or {T : Tp} {w : Nat} {m k S st : Int} (e : st = S) : (k < m ∧ T (st + k) = wC w k ∧ eqv (fun i => T (S + i)) (wC w) m k = eqv (fun i => T (S + i)) (wC w) m (k + 1)) ∨ (k < m ∧ T (st + k) ≠ wC w k ∧ eqv (fun i => T (S + i)) (wC w) m k = 0) ∨ (m ≤ k ∧ eqv (fun i => T (S + i)) (wC w) m k = 1) := by
  subst e
  by_cases h : k < m
  · by_cases h2 : T (st + k) = wC w k
    · exact Or.inl ⟨h, h2, eqv_go h h2⟩
    · exact Or.inr (Or.inl ⟨h, h2, eqv_no h h2⟩)
  · exact Or.inr (Or.inr ⟨by omega, eqv_end (by first | decide | omega)⟩)
theorem eq2_or {T : Tp} {m k S st C c : Int} (e : st = S) (e2 : c = C) : (k < m ∧ T (st + k) = T (c + k) ∧ eqv (fun i => T (S + i)) (fun i => T (C + i)) m k = eqv (fun i => T (S + i)) (fun i => T (C + i)) m (k + 1)) ∨ (k < m ∧ T (st + k) ≠ T (c + k) ∧ eqv (fun i => T (S + i)) (fun i => T (C + i)) m k = 0) ∨ (m ≤ k ∧ eqv (fun i => T (S + i)) (fun i => T (C + i)) m k = 1) := by
  subst e
  subst e2
  by_cases h : k < m
  · by_cases h2 : T (st + k) = T (c + k)
    · exact Or.inl ⟨h, h2, eqv_go h h2⟩
    · exact Or.inr (Or.inl ⟨h, h2, eqv_no h h2⟩)
  · exact Or.inr (Or.inr ⟨by omega, eqv_end (by first | decide | omega)⟩)
theorem smr_or (T : Tp) (a b c d : Int) : (b - a = d - c ∧ smr T a b c d = eqv (fun i => T (a + i)) (fun i => T (c + i)) (b - a) 0) ∨ (b - a ≠ d - c ∧ smr T a b c d = 0) := by
  unfold smr
  by_cases h : b - a = d - c
  · rw [if_pos h]
    exact Or.inl ⟨h, rfl⟩
  · rw [if_neg h]
    exact Or.inr ⟨h, rfl⟩
theorem nm_or (T : Tp) (n : Int) (s : Rg) (k : Int) : (k < s 4 ∧ smr T (tkS T n (s 0)) (tkE T n (s 0)) (n3 s 20 k) (n3 s 30 k) = 1 ∧ pNm T n s k = k) ∨ (k < s 4 ∧ smr T (tkS T n (s 0)) (tkE T n (s 0)) (n3 s 20 k) (n3 s 30 k) ≠ 1 ∧ pNm T n s k = pNm T n s (k + 1)) ∨ (s 4 ≤ k ∧ pNm T n s k = -1) := by
  unfold pNm
  by_cases h : k < s 4
  · obtain ⟨j, hj⟩ : ∃ j : Nat, (s 4 - k).toNat = j + 1 := ⟨(s 4 - k).toNat - 1, by omega⟩
    have hj2 : (s 4 - (k + 1)).toNat = j := by omega
    rw [hj, hj2]
    by_cases h2 : smr T (tkS T n (s 0)) (tkE T n (s 0)) (n3 s 20 k) (n3 s 30 k) = 1
    · refine Or.inl ⟨h, h2, ?_⟩
      show (if k < s 4 then (if smr T (tkS T n (s 0)) (tkE T n (s 0)) (n3 s 20 k) (n3 s 30 k) = 1 then k else nmF T n s j (k + 1)) else -1) = k
      rw [if_pos h, if_pos h2]
    · refine Or.inr (Or.inl ⟨h, h2, ?_⟩)
      show (if k < s 4 then (if smr T (tkS T n (s 0)) (tkE T n (s 0)) (n3 s 20 k) (n3 s 30 k) = 1 then k else nmF T n s j (k + 1)) else -1) = _
      rw [if_pos h, if_neg h2]
  · refine Or.inr (Or.inr ⟨by omega, ?_⟩)
    rw [show (s 4 - k).toNat = 0 by omega]
    rfl
theorem pRw_or (s : Rg) : (0 < s 8 ∧ s 10 = -1 ∧ 0 < s 4 ∧ pRw s = s 4 - 1) ∨ ((s 8 ≤ 0 ∨ s 10 ≠ -1 ∨ s 4 ≤ 0) ∧ pRw s = 3) := by
  unfold pRw
  by_cases h1 : 0 < s 8
  · by_cases h2 : s 10 = -1
    · by_cases h3 : 0 < s 4
      · rw [if_pos h1, if_pos h2, if_pos h3]
        exact Or.inl ⟨h1, h2, h3, rfl⟩
      · rw [if_pos h1, if_pos h2, if_neg h3]
        exact Or.inr ⟨by omega, rfl⟩
    · rw [if_pos h1, if_neg h2]
      exact Or.inr ⟨by omega, rfl⟩
  · rw [if_neg h1]
    exact Or.inr ⟨by omega, rfl⟩
theorem ud_same (s : Rg) (i : Int) : ud s i (s i) = s := funext fun j => by
  unfold ud
  by_cases h : j = i
  · rw [if_pos h, h]
  · rw [if_neg h]
theorem pFl_0 (T : Tp) (n w : Int) (s : Rg) : pFl T n w s 0 = s 0 := by
  unfold pFl
  split
  · rfl
  · rfl
theorem pEx_0 (T : Tp) (n w : Int) (s : Rg) : pEx T n w s 0 = s 0 := by
  unfold pEx
  split
  · split
    · rfl
    · exact pFl_0 _ _ _ _
  · rfl
theorem pSg_1 (T : Tp) (n w : Int) (s : Rg) : pSg T n w s 1 = pEx T n w s 1 := by
  unfold pSg
  split
  · rfl
  · rfl
section RDW
variable {G : Gh} {r tx op a b d v w k s8 sk tk : Int}
theorem rd_psh (eo : op = G 131 r 12) (ed : d = s8) (h : k < s8 → G 106 (G 131 r 12) k = sk) : k < s8 + 1 → (up G 106 op d v) 106 (G 131 r 12) k = (if s8 = k then v else sk) := by
  intro hk
  subst ed
  subst eo
  by_cases e : d = k
  · subst e
    rw [up_self, if_pos rfl]
  · rw [up_ne (fun q => e q.2.2.symm), if_neg e]
    exact h (by first | decide | omega)
theorem rd_nwA (ea : a = G 131 r 15) (eb : b = G 131 r 16) (ne : G 131 r 15 ≠ G 131 r 16) (ed : d = s8) (ev : v = tk) (h : k < s8 → G 107 (G 131 r 15) k = sk) : k < s8 + 1 → (up (up G 107 a d v) 107 b d w) 107 (G 131 r 15) k = (if s8 = k then tk else sk) := by
  intro hk
  subst ed
  subst ea
  subst eb
  rw [up_ne (fun q => ne q.2.1)]
  by_cases e : d = k
  · subst e
    rw [up_self, if_pos rfl]
    exact ev
  · rw [up_ne (fun q => e q.2.2.symm), if_neg e]
    exact h (by first | decide | omega)
theorem rd_nwB (ea : a = G 131 r 15) (eb : b = G 131 r 16) (ne : G 131 r 15 ≠ G 131 r 16) (ed : d = s8) (ev : w = tk) (h : k < s8 → G 107 (G 131 r 16) k = sk) : k < s8 + 1 → (up (up G 107 a d v) 107 b d w) 107 (G 131 r 16) k = (if s8 = k then tk else sk) := by
  intro hk
  subst ed
  subst ea
  subst eb
  by_cases e : d = k
  · subst e
    rw [up_self, if_pos rfl]
    exact ev
  · rw [up_ne (fun q => e q.2.2.symm), if_neg e, up_ne (fun q => ne q.2.1.symm)]
    exact h (by first | decide | omega)
theorem rd_mow (ea : a = G 136 tx 9) (eb : b = G 136 tx 10) (ne : G 136 tx 9 ≠ G 136 tx 10) (h : G 124 (G 136 tx 9) k = sk) : (up (up G 124 a d v) 124 b d w) 124 (G 136 tx 9) k = (if d = k then v else sk) := by
  subst ea
  subst eb
  rw [up_ne (fun q => ne q.2.1)]
  by_cases e : d = k
  · subst e
    rw [up_self, if_pos rfl]
  · rw [up_ne (fun q => e q.2.2.symm), if_neg e]
    exact h
end RDW
theorem iand255 {z x : Int} (z1 : -2147483648 ≤ z) (z2 : z ≤ 2147483647) (h : Int32.ofInt z = Int32.ofInt x &&& Int32.ofInt 255) : z = x % 256 := by
  have hb : (Int32.ofInt z).toBitVec = (Int32.ofInt x).toBitVec &&& (Int32.ofInt 255).toBitVec := by rw [h]; rfl
  have hn : (Int32.ofInt z).toBitVec.toNat = (Int32.ofInt x).toBitVec.toNat % 2 ^ 8 := by
    rw [hb, BitVec.toNat_and]
    exact Nat.and_two_pow_sub_one_eq_mod _ 8
  have ex : (Int32.ofInt x).toBitVec.toNat = (x % 4294967296).toNat := by
    show (BitVec.ofInt 32 x).toNat = _
    rw [BitVec.toNat_ofInt]; omega
  have ez : (Int32.ofInt z).toBitVec.toNat = (z % 4294967296).toNat := by
    show (BitVec.ofInt 32 z).toNat = _
    rw [BitVec.toNat_ofInt]; omega
  rw [ex, ez] at hn
  have h8 : (2 : Nat) ^ 8 = 256 := rfl
  rw [h8] at hn
  omega
theorem wC_bd (k : Nat) (hk : k < 20) (i : Int) : 0 ≤ wC k i ∧ wC k i ≤ 122 := by
  unfold wC
  have hall : ∀ k : Nat, k < 20 → (ksB.getD k []).all (fun c => decide (0 ≤ c.toInt) && decide (c.toInt ≤ 122)) = true := by decide
  by_cases h : i.toNat < (ksB.getD k []).length
  · have e : (ksB.getD k []).getD i.toNat 0 = (ksB.getD k [])[i.toNat] := by
      rw [List.getD_eq_getElem?_getD, List.getElem?_eq_getElem h]
      rfl
    have q := List.all_eq_true.mp (hall k hk) _ (List.getElem_mem h)
    rw [e]
    simp only [Bool.and_eq_true, decide_eq_true_eq] at q
    exact q
  · have e : (ksB.getD k []).getD i.toNat 0 = 0 := by
      rw [List.getD_eq_getElem?_getD, List.getElem?_eq_none (by first | decide | omega)]
      rfl
    rw [e]
    decide
section RSB
variable {E : En} {M : Mk} {as : List Vl} {d mc ms : Nat} {Y : Option Vl → Sg → Gh → Prop} {X : Xp} {cs ss : Nat} {S : Sg} {G : Gh} {P : Cod} {pc : Nat} {st : List Vl} {lo : Lo}
theorem r_sbaldE (hX : Cl E M as d mc ms Y X) (hP : Dec M.2.1 P) (hf : fd P pc = some (.baload, 1)) {k : Nat} {i : Int} (hk : k < 20) (i1 : 0 ≤ i) (i2 : i < (ksL.getD k 0 : Nat)) (kk : ∀ v : Int, v = wC k i → 0 ≤ v → v ≤ 122 → X cs ss (pc + 1) ((0, v) :: st) lo S G) : X cs ss pc ((0, i) :: (2, sV E k) :: st) lo S G := by
  obtain ⟨w1, w2⟩ := wC_bd k hk i
  have kk := kk _ rfl w1 w2
  obtain ⟨p, e, z, m, below, meth, c, hx, hb, hr, hml, hown, hlk, hnm, hts, hK, rfl⟩ := hX
  intro H locs ls hR hz hL hl
  have l8 : ksL.getD k 0 ≤ 8 := by
    have : ∀ k : Nat, k < 20 → ksL.getD k 0 ≤ 8 := by decide
    exact this k hk
  obtain ⟨q1, q2⟩ := ix_in i1 i2 (by first | decide | omega)
  have kk := kk H locs ls hR hz hL hl
  simp only [ts, List.map_cons] at kk ⊢
  rw [show tv (2, sV E k) = .ref (ksV E k) from tvN _]
  rw [tv0, show Int32.ofInt (wC k i) = (ksB.getD k []).getD i.toNat 0 from Int32.ofInt_toInt _] at kk
  rw [tv0]
  obtain ⟨cell, h1, h2, h3, h4, h5, h6, h7⟩ := ((kS_at hK hR).1 k hk).2.2.2
  refine W.bald (v := .int ((ksB.getD k []).getD i.toNat 0)) hx hb h1 h2 h3 (fun w => q1 (w.imp id (fun w => by omega))) ?_ rfl rfl (fd_dec hP hf) kk
  rw [q2, h6 _ (by first | decide | omega)]
end RSB
/-! words by one number each; the steps in their plain forms -/
def wdF (T : Tp) (s : Int) : Nat → Int
  | 0 => 0
  | k + 1 => if k < 12 then wdF T s k * 32 + T (s + k) - 96 else -1
def wd (T : Tp) (s e : Int) : Int := wdF T s (e - s).toNat
def wW (k : Nat) : Int := wd (wC k) 0 (wL k)
def sp6 (a b c d e f : Int) : Int :=
  let w := (a - 96) * 32 + b - 96
  let w := if 0 < c then w * 32 + c - 96 else w
  let w := if 0 < d then w * 32 + d - 96 else w
  let w := if 0 < e then w * 32 + e - 96 else w
  if 0 < f then w * 32 + f - 96 else w
def srt (k : Int) : Int := if k = 0 then 0 else if k = 1 then 1 else if k = 2 then 2 else if k = 3 then 4 else 3
theorem srt_or (k : Int) : (k = 0 ∧ srt k = 0) ∨ (k = 1 ∧ srt k = 1) ∨ (k = 2 ∧ srt k = 2) ∨ (k = 3 ∧ srt k = 4) ∨ (k ≠ 0 ∧ k ≠ 1 ∧ k ≠ 2 ∧ k ≠ 3 ∧ srt k = 3) := by
  unfold srt
  (repeat' split) <;> omega
theorem tkK_cs (T : Tp) (n p : Int) : tkK T n p = 0 ∨ tkK T n p = 1 ∨ tkK T n p = 2 ∨ tkK T n p = 3 ∨ tkK T n p = 59 ∨ tkK T n p = 123 ∨ tkK T n p = 125 ∨ tkK T n p = 60 ∨ tkK T n p = 62 := by
  unfold tkK
  split
  · exact Or.inl rfl
  split
  · exact Or.inr (Or.inl rfl)
  split
  · split
    · exact Or.inr (Or.inr (Or.inr (Or.inl rfl)))
    · exact Or.inr (Or.inr (Or.inl rfl))
  split
  · rename_i h
    have := cS_iff.mp h
    omega
  · exact Or.inr (Or.inr (Or.inr (Or.inl rfl)))
section WDL
variable {T U : Tp} {n p s e a b : Int}
theorem wd_zero : wd T s s = 0 := by
  unfold wd
  rw [Int.sub_self]
  rfl
theorem wd_or (h : s ≤ e) : (e - s < 12 ∧ wd T s (e + 1) = wd T s e * 32 + T e - 96) ∨ (12 ≤ e - s ∧ wd T s (e + 1) = -1) := by
  unfold wd
  obtain ⟨k, hk⟩ : ∃ k : Nat, e = s + k := ⟨(e - s).toNat, by omega⟩
  have h1 : (e + 1 - s).toNat = k + 1 := by omega
  have h2 : (e - s).toNat = k := by omega
  rw [h1, h2]
  show (e - s < 12 ∧ (if k < 12 then wdF T s k * 32 + T (s + k) - 96 else -1) = _) ∨ (12 ≤ e - s ∧ (if k < 12 then wdF T s k * 32 + T (s + k) - 96 else -1) = -1)
  by_cases q : k < 12
  · rw [if_pos q, hk]
    exact Or.inl ⟨by omega, rfl⟩
  · rw [if_neg q]
    exact Or.inr ⟨by omega, rfl⟩
theorem wdF_bd (k : Nat) (hk : k ≤ 12) (h : ∀ i : Int, s ≤ i → i < s + k → cL (T i) = true) : 0 ≤ wdF T s k ∧ wdF T s k < 32 ^ k := by
  induction k with
  | zero => exact ⟨Int.le_refl 0, by show (0 : Int) < _; decide⟩
  | succ k ih =>
    obtain ⟨h1, h2⟩ := ih (by first | decide | omega) (fun i a b => h i a (by first | decide | omega))
    have h3 := cL_iff.mp (h (s + k) (by first | decide | omega) (by first | decide | omega))
    have e : wdF T s (k + 1) = wdF T s k * 32 + T (s + k) - 96 := if_pos (by first | decide | omega)
    rw [e, Int.pow_succ]
    omega
theorem wd_bdo (h1 : s ≤ e) (h2 : e ≤ scn cL T n s) : 12 ≤ e - s ∨ (0 ≤ wd T s e ∧ wd T s e ≤ 36028797018963967) := by
  by_cases h12 : 12 ≤ e - s
  · exact Or.inl h12
  · right
    have hb := wdF_bd (T := T) (s := s) (e - s).toNat (by first | decide | omega) (fun i a b => scn_in (n := n) a (by first | decide | omega))
    unfold wd
    refine ⟨hb.1, ?_⟩
    have : (32 : Int) ^ (e - s).toNat ≤ 32 ^ 11 := by
      rcases (by omega : (e - s).toNat = 0 ∨ (e - s).toNat = 1 ∨ (e - s).toNat = 2 ∨ (e - s).toNat = 3 ∨ (e - s).toNat = 4 ∨ (e - s).toNat = 5 ∨ (e - s).toNat = 6 ∨ (e - s).toNat = 7 ∨ (e - s).toNat = 8 ∨ (e - s).toNat = 9 ∨ (e - s).toNat = 10 ∨ (e - s).toNat = 11) with h | h | h | h | h | h | h | h | h | h | h | h <;> rw [h] <;> decide
    have h6 : (32 : Int) ^ 11 = 36028797018963968 := by decide
    omega
theorem wdF_inj (j : Nat) : ∀ k : Nat, j ≤ 12 → k ≤ 12 → (∀ i : Int, a ≤ i → i < a + j → cL (T i) = true) → (∀ i : Int, b ≤ i → i < b + k → cL (U i) = true) → wdF T a j = wdF U b k → j = k ∧ ∀ i : Int, 0 ≤ i → i < j → T (a + i) = U (b + i) := by
  induction j with
  | zero =>
    intro k _ hk _ hU e
    cases k with
    | zero => exact ⟨rfl, fun i a b => by omega⟩
    | succ k =>
      exfalso
      have h1 := (wdF_bd (T := U) (s := b) k (by first | decide | omega) (fun i a b => hU i a (by first | decide | omega))).1
      have h3 := cL_iff.mp (hU (b + k) (by first | decide | omega) (by first | decide | omega))
      have e2 : wdF U b (k + 1) = wdF U b k * 32 + U (b + k) - 96 := if_pos (by first | decide | omega)
      have e0 : wdF T a 0 = 0 := rfl
      omega
  | succ j ih =>
    intro k hj hk hT hU e
    have t1 := (wdF_bd (T := T) (s := a) j (by first | decide | omega) (fun i x y => hT i x (by first | decide | omega))).1
    have t3 := cL_iff.mp (hT (a + j) (by first | decide | omega) (by first | decide | omega))
    have te : wdF T a (j + 1) = wdF T a j * 32 + T (a + j) - 96 := if_pos (by first | decide | omega)
    cases k with
    | zero =>
      exfalso
      have e0 : wdF U b 0 = 0 := rfl
      omega
    | succ k =>
      have h1 := (wdF_bd (T := U) (s := b) k (by first | decide | omega) (fun i x y => hU i x (by first | decide | omega))).1
      have h3 := cL_iff.mp (hU (b + k) (by first | decide | omega) (by first | decide | omega))
      have e2 : wdF U b (k + 1) = wdF U b k * 32 + U (b + k) - 96 := if_pos (by first | decide | omega)
      obtain ⟨q1, q2⟩ := ih k (by first | decide | omega) (by first | decide | omega) (fun i x y => hT i x (by first | decide | omega)) (fun i x y => hU i x (by first | decide | omega)) (by first | decide | omega)
      refine ⟨by omega, fun i x y => ?_⟩
      by_cases c : i < j
      · exact q2 i x c
      · have c1 : i = j := by omega
        have c2 : (j : Int) = k := by omega
        rw [c1]
        have c3 : T (a + j) = U (b + k) := by omega
        rw [c3, c2]
theorem wdF_cong (j : Nat) (h : ∀ i : Int, 0 ≤ i → i < j → T (a + i) = U (b + i)) : wdF T a j = wdF U b j := by
  induction j with
  | zero => rfl
  | succ j ih =>
    have i1 := ih (fun i x y => h i x (by first | decide | omega))
    have i2 := h j (by first | decide | omega) (by first | decide | omega)
    show (if j < 12 then wdF T a j * 32 + T (a + j) - 96 else -1) = (if j < 12 then wdF U b j * 32 + U (b + j) - 96 else -1)
    rw [i1, i2]
theorem wd_iff {c d : Int} (h1 : a ≤ b) (h2 : c ≤ d) (hd : d - c ≤ 12) (hT : ∀ i : Int, a ≤ i → i < b → cL (T i) = true) (hU : ∀ i : Int, c ≤ i → i < d → cL (U i) = true) : wd T a b = wd U c d ↔ (b - a = d - c ∧ ∀ i : Int, 0 ≤ i → i < b - a → T (a + i) = U (c + i)) := by
  unfold wd
  constructor
  · intro e
    by_cases h12 : b - a ≤ 12
    · obtain ⟨q1, q2⟩ := wdF_inj (b - a).toNat (d - c).toNat (by first | decide | omega) (by first | decide | omega) (fun i x y => hT i x (by first | decide | omega)) (fun i x y => hU i x (by first | decide | omega)) e
      exact ⟨by omega, fun i x y => q2 i x (by first | decide | omega)⟩
    · exfalso
      have hb := (wdF_bd (T := U) (s := c) (d - c).toNat (by first | decide | omega) (fun i x y => hU i x (by first | decide | omega))).1
      obtain ⟨k, hk⟩ : ∃ k : Nat, (b - a).toNat = k + 1 := ⟨(b - a).toNat - 1, by omega⟩
      rw [hk] at e
      have e2 : wdF T a (k + 1) = -1 := if_neg (by first | decide | omega)
      omega
  · rintro ⟨e1, e2⟩
    rw [e1]
    exact wdF_cong _ (fun i x y => e2 i x (by first | decide | omega))
theorem eqF_01 {f g : Int → Int} {m : Int} (j : Nat) : ∀ k : Int, eqF f g m j k = 0 ∨ eqF f g m j k = 1 := by
  induction j with
  | zero => exact fun k => Or.inr rfl
  | succ j ih =>
    intro k
    show (if k < m then (if f k = g k then eqF f g m j (k + 1) else 0) else 1) = 0 ∨ (if k < m then (if f k = g k then eqF f g m j (k + 1) else 0) else 1) = 1
    split
    · split
      · exact ih (k + 1)
      · exact Or.inl rfl
    · exact Or.inr rfl
theorem eqv_01 (f g : Int → Int) (m k : Int) : eqv f g m k = 0 ∨ eqv f g m k = 1 := eqF_01 _ k
theorem wL_bd (k : Nat) (hk : k < 20) : 1 ≤ wL k ∧ wL k ≤ 8 := by
  unfold wL
  have : ∀ k : Nat, k < 20 → 1 ≤ ksL.getD k 0 ∧ ksL.getD k 0 ≤ 8 := by decide
  have := this k hk
  omega
theorem wC_let (k : Nat) (hk : k < 20) (i : Int) (h0 : 0 ≤ i) (h1 : i < wL k) : cL (wC k i) = true := by
  have hall : ∀ k : Nat, k < 20 → ((List.range 8).all (fun i => !(Nat.blt i (ksL.getD k 0)) || cL (wC k (i : Nat)))) = true := by decide +kernel
  have hb := wL_bd k hk
  obtain ⟨j, rfl⟩ : ∃ j : Nat, i = j := ⟨i.toNat, by omega⟩
  have q := List.all_eq_true.mp (hall k hk) j (List.mem_range.mpr (by first | decide | omega))
  have h2 : Nat.blt j (ksL.getD k 0) = true := Nat.blt_eq.mpr (by unfold wL at h1; omega)
  rw [h2] at q
  simpa using q
theorem wl_orW (T : Tp) (n p : Int) {k : Nat} (hk : k < 20) : (wq T n p k = 1 ∧ tkK T n p = 1 ∧ wd T (tkS T n p) (tkE T n p) = wW k) ∨ (wq T n p k = 0 ∧ (tkK T n p ≠ 1 ∨ wd T (tkS T n p) (tkE T n p) ≠ wW k)) := by
  obtain ⟨l1, l2⟩ := wL_bd k hk
  rcases wq_or T n p k with ⟨h1, h2, h3⟩ | ⟨h1, h3⟩
  · have iff := wd_iff (T := T) (U := wC k) (a := tkS T n p) (b := tkE T n p) (c := 0) (d := wL k) (tkE_ge T n p) (by first | decide | omega) (by first | decide | omega) (fun i x y => tkK_let h1 x y) (fun i x y => wC_let k hk i x y)
    rcases eqv_01 (fun i => T (tkS T n p + i)) (wC k) (wL k) 0 with e | e
    · refine Or.inr ⟨h3.trans e, Or.inr (fun w => ?_)⟩
      obtain ⟨q1, q2⟩ := iff.mp w
      have : eqv (fun i => T (tkS T n p + i)) (wC k) (wL k) 0 = 1 := eqv_iff.mpr (fun i x y => by
        have := q2 i x (by first | decide | omega)
        rw [Int.zero_add] at this
        exact this)
      omega
    · refine Or.inl ⟨h3.trans e, h1, iff.mpr ⟨by omega, fun i x y => ?_⟩⟩
      have := eqv_iff.mp e i x (by first | decide | omega)
      rw [Int.zero_add]
      exact this
  · refine Or.inr ⟨h3, ?_⟩
    by_cases h : tkK T n p = 1
    · have iff := wd_iff (T := T) (U := wC k) (a := tkS T n p) (b := tkE T n p) (c := 0) (d := wL k) (tkE_ge T n p) (by first | decide | omega) (by first | decide | omega) (fun i x y => tkK_let h x y) (fun i x y => wC_let k hk i x y)
      exact Or.inr (fun w => by
        have := (iff.mp w).1
        omega)
    · exact Or.inl h
theorem wl_or (T : Tp) (n p : Int) {k : Nat} {lit : Int} (hk : k < 20) (hl : wW k = lit) : (wq T n p k = 1 ∧ tkK T n p = 1 ∧ wd T (tkS T n p) (tkE T n p) = lit) ∨ (wq T n p k = 0 ∧ (tkK T n p ≠ 1 ∨ wd T (tkS T n p) (tkE T n p) ≠ lit)) := by
  subst hl
  exact wl_orW T n p hk
theorem isw_eq {T : Tp} {n p : Int} {k : Nat} {lit w z : Int} (hk : k < 20) (hl : wW k = lit) (e : w = lit) (f : (tkK T n p = 1 ∧ wd T (tkS T n p) (tkE T n p) = w ∧ z = 1) ∨ ((tkK T n p ≠ 1 ∨ wd T (tkS T n p) (tkE T n p) ≠ w) ∧ z = 0)) : z = wq T n p k := by
  subst e
  rcases wl_or T n p hk hl with ⟨a, b, c⟩ | ⟨a, b⟩
  · rcases f with ⟨_, _, d⟩ | ⟨d, _⟩
    · omega
    · omega
  · rcases f with ⟨d, e, _⟩ | ⟨_, d⟩
    · omega
    · omega
theorem wq_tk (T : Tp) (n p : Int) (k : Nat) : wq T n p k ≠ 1 ∨ tkK T n p = 1 := by
  unfold wq
  split
  · right; assumption
  · left; decide
theorem smr_iff (c d : Int) : smr T a b c d = 1 ↔ (b - a = d - c ∧ ∀ i : Int, 0 ≤ i → i < b - a → T (a + i) = T (c + i)) := by
  rcases smr_or T a b c d with ⟨h1, h2⟩ | ⟨h1, h2⟩
  · rw [h2, eqv_iff]
    exact ⟨fun q => ⟨h1, q⟩, fun q => q.2⟩
  · rw [h2]
    exact ⟨fun q => absurd q (by decide), fun q => absurd q.1 h1⟩
end WDL
/-- the names that stand: letters, eight at most -/
def NmV (T : Tp) (s : Rg) : Prop := ∀ k : Int, 0 ≤ k → k < s 4 → k ≤ 2 → 0 < n3 s 30 k - n3 s 20 k ∧ n3 s 30 k - n3 s 20 k ≤ 8 ∧ ∀ i : Int, n3 s 20 k ≤ i → i < n3 s 30 k → cL (T i) = true
theorem n3_cong {s t : Rg} {b : Int} (h0 : t b = s b) (h1 : t (b + 1) = s (b + 1)) (h2 : t (b + 2) = s (b + 2)) (k : Int) : n3 t b k = n3 s b k := by
  unfold n3
  rw [h0, h1, h2]
theorem nmv_keep {T : Tp} {s t : Rg} (h : NmV T s) (e : t 4 = s 4) (a0 : t 20 = s 20) (a1 : t 21 = s 21) (a2 : t 22 = s 22) (b0 : t 30 = s 30) (b1 : t 31 = s 31) (b2 : t 32 = s 32) : NmV T t := by
  intro k k0 k1 k2
  rw [n3_cong (b := 20) a0 a1 a2, n3_cong (b := 30) b0 b1 b2]
  exact h k k0 (by first | decide | omega) k2
section NRM
variable (T : Tp) (n : Int)
def pWr (s : Rg) : Rg := pFl T n (if tkK T n (s 0) = 3 then 1 else 2) s
theorem pFl_1 {w : Int} {s : Rg} (h : s 1 = 0) : pFl T n w s 1 = w := by
  unfold pFl
  rw [if_pos h]
  rfl
theorem pFl_id {w : Int} {s : Rg} (h : s 1 ≠ 0) : pFl T n w s = s := if_neg h
theorem pWr_1 {s : Rg} (h : s 1 = 0) : pWr T n s 1 ≠ 0 := by
  unfold pWr
  rw [pFl_1 T n h]
  split <;> decide
theorem pEx_n (w : Int) (s : Rg) : pEx T n w s = if s 1 = 0 then (if tkK T n (s 0) = w then s else pWr T n s) else s := rfl
theorem pSg_n (w : Int) (s : Rg) : pSg T n w s = if s 1 = 0 then (if tkK T n (s 0) = w then pAv T n s else pWr T n s) else s := by
  unfold pSg
  rw [pEx_n]
  by_cases h : s 1 = 0
  · rw [if_pos h]
    by_cases h2 : tkK T n (s 0) = w
    · rw [if_pos h2, if_pos h, if_pos h, if_pos h2]
    · rw [if_neg h2, if_neg (pWr_1 T n h), if_pos h, if_neg h2]
  · rw [if_neg h, if_neg h, if_neg h]
theorem pKd_n (k : Nat) (s : Rg) : pKd T n k s = if s 1 = 0 then (if wq T n (s 0) k = 1 then pAv T n s else pWr T n s) else s := by
  unfold pKd
  rw [pEx_n]
  by_cases h : s 1 = 0
  · rw [if_pos h]
    by_cases h2 : tkK T n (s 0) = 1
    · rw [if_pos h2, if_pos h, if_pos h]
      by_cases h3 : wq T n (s 0) k = 1
      · rw [if_pos h3, if_pos h3]
      · rw [if_neg h3, if_neg h3]
        unfold pWr
        rw [if_neg (by first | decide | omega)]
    · rw [if_neg h2, if_neg (pWr_1 T n h), if_pos h]
      rcases wq_or T n (s 0) k with q | q
      · exact absurd q.1 h2
      · rw [if_neg (by first | decide | omega)]
  · rw [if_neg h, if_neg h, if_neg h]
theorem pNb_n (lo hi : Int) (s : Rg) : pNb T n lo hi s = if s 1 = 0 then (if tkK T n (s 0) = 2 then (if tkV T n (s 0) < lo then pFl T n 4 s else if hi < tkV T n (s 0) then pFl T n 4 s else pAv T n s) else pWr T n s) else s := by
  unfold pNb
  rw [pEx_n]
  by_cases h : s 1 = 0
  · rw [if_pos h]
    by_cases h2 : tkK T n (s 0) = 2
    · rw [if_pos h2, if_pos h, if_pos h, if_pos h2]
    · rw [if_neg h2, if_neg (pWr_1 T n h), if_pos h, if_neg h2]
  · rw [if_neg h, if_neg h, if_neg h]
theorem pNa_n (s : Rg) : pNa T n s = if s 1 = 0 then (if tkK T n (s 0) = 1 then (if tkE T n (s 0) - tkS T n (s 0) ≤ 8 then s else pWr T n s) else pWr T n s) else s := by
  unfold pNa
  rw [pEx_n]
  by_cases h : s 1 = 0
  · rw [if_pos h]
    by_cases h2 : tkK T n (s 0) = 1
    · rw [if_pos h2, if_pos h, if_pos h, if_pos h2]
      by_cases h3 : tkE T n (s 0) - tkS T n (s 0) ≤ 8
      · rw [if_pos h3, if_pos h3]
      · rw [if_neg h3, if_neg h3]
        unfold pWr
        rw [if_neg (by first | decide | omega)]
    · rw [if_neg h2, if_neg (pWr_1 T n h), if_pos h, if_neg h2]
  · rw [if_neg h, if_neg h, if_neg h]
end NRM
