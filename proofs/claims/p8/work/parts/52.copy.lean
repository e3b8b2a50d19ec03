section RUC
variable {E : En} {M : Mk} {as : List Vl} {d mc ms : Nat} {Y : Option Vl → Sg → Gh → Prop} {X : Xp} {cs ss : Nat} {S : Sg} {G : Gh} {P : Cod} {pc tgt idx : Nat} {st : List Vl} {lo : Lo} {x y off a b L L2 : Int}
/-- the first n places of one array copied to another -/
def cpy (G : Gh) (L a L2 b : Int) (n : Nat) : Gh := fun L' a' j' => if L' = L2 ∧ a' = b ∧ 0 ≤ j' ∧ j' < n then G L a j' else G L' a' j'
theorem cpy_in {L a L2 b j : Int} {n : Nat} (h0 : 0 ≤ j) (h1 : j < n) : cpy G L a L2 b n L2 b j = G L a j := if_pos ⟨rfl, rfl, h0, h1⟩
theorem cpy_out {L a L2 b L' a' j : Int} {n : Nat} (h : ¬ (L' = L2 ∧ a' = b ∧ 0 ≤ j ∧ j < n)) : cpy G L a L2 b n L' a' j = G L' a' j := if_neg h
theorem cpy_hw (G : Gh) (L a L2 b : Int) (n : Nat) : cpy G L a L2 b n = hw [(L2, -1)] G (cpy G L a L2 b n) := by
  funext L' a' j'
  unfold hw
  split
  · rfl
  · rename_i h
    refine cpy_out (fun q => h ?_)
    simp [inm, q.1]
theorem r_acopyJ (hX : Cl E M as d mc ms Y X) (hP : Dec M.2.1 P) (hf : fd P pc = some (.invokestatic idx, 3)) {n1 n2 n : Nat} {yl yh : Int} (hA1 : Al L 1 n1 (1, yl, yh)) (hA2 : Al L2 1 n2 (1, yl, yh)) (w1 : Cond.methodLink M.1.cls idx arraycopyName ∈ tb) (w2 : Cond.native arraycopyName ∈ tb) (w3 : Cond.static arraycopyName ∈ tb) (w4 : Cond.initialized "java/lang/System" ∈ tb) (hd : 1 ≤ d) (hsc : sc st ≤ 8)
    (hS1 : S a = L) (hS2 : S b = L2) (h1 : n ≤ n1) (h2 : n ≤ n2) (k : X cs ss (pc + 3) st lo S (cpy G L a L2 b n)) : X cs ss pc ((0, (n : Int)) :: (0, 0) :: (2, b) :: (0, 0) :: (2, a) :: st) lo S G := by
  obtain ⟨p, e, z, m, below, meth, c, hx, hb, hr, hml, hown, hlk, hnm, hts, hK, rfl⟩ := hX
  intro H locs ls hR hz hL hl
  obtain ⟨ha, hb0, hc, ho⟩ := arr_at hR hA1 hS1
  obtain ⟨ha', hb0', hc', ho'⟩ := arr_at hR hA2 hS2
  have hn : (Int32.ofInt (n : Int)).toInt = n := i32t (by first | decide | omega) (by have := hA1.2.2; omega)
  have hn' : (Int32.ofInt (n : Int)).toNatClampNeg = n := by
    show (Int32.ofInt (n : Int)).toInt.toNat = n
    rw [hn]; rfl
  have z0 : (Int32.ofInt 0).toNatClampNeg = 0 := rfl
  have zi : (Int32.ofInt 0).toInt = 0 := rfl
  obtain ⟨-, k0, hk0, cm0, hkk0⟩ := hK.2.1 1 n1 (fun j => tv (1, G L a j))
  obtain ⟨-, k1, hk1, cm1, hkk1⟩ := hK.2.1 1 n2 (fun j => tv (1, G L2 b j))
  simp only [ts, List.map_cons]
  rw [tv2 ha, tv2 ha', tv0, tv0]
  intro T hT X
  have gd : ∀ i, i < n → (arrV (E.2.2.1 1) n1 (fun j => tv (1, G L a j))).slots.getD (0 + i) .null = tv (1, G L a i) := fun i hi => by
    rw [Array.getD_eq_getD_getElem?, arrV_read _ _ (by first | decide | omega), Nat.zero_add]
    rfl
  obtain ⟨vm', X', step⟩ := X.arraycopy hx hown (hts _ w1) (hts _ w2) (hts _ w3) (hts _ w4) (src := a.toNat) (dst := b.toNat) (srcPos := Int32.ofInt 0) (destPos := Int32.ofInt 0) (n := Int32.ofInt (n : Int)) (by rw [hT]; exact hc) (by rw [hT]; exact hc')
    (fun _ h => by cases h) (fun _ h => by cases h) (fun h => by cases h) (fun h => by cases h) hk0 hk1 hkk0 hkk1 rfl (by decide) (by decide) (by rw [Int32.lt_iff_toInt_lt, hn, Int32.toInt_zero]; omega)
    (by rw [hn, zi, arrV_size]; omega) (by rw [hn, zi, arrV_size]; omega)
    (fun vm₁ _ i hi => by
      rw [hn'] at hi
      rw [z0, gd i hi]
      exact ⟨rfl, trivial⟩)
    (g := F0 m pc ls (.int (Int32.ofInt (n : Int)) :: .int (Int32.ofInt 0) :: .ref b.toNat :: .int (Int32.ofInt 0) :: .ref a.toNat :: ts st)) rfl (by rw [hml]; exact hl.1) (rest := ts st) rfl (by rw [hb]; exact fd_dec hP hf) (show 1 ≤ d from hd) (by
      have nf : nativeFrameWords "java/lang/System" "arraycopy" 5 ≤ 50 := by decide +kernel
      show 2 * 0 + ((ts st).map fun v => v.category).sum + (nativeFrameWords "java/lang/System" "arraycopy" 5 + 11) ≤ 100 * d
      rw [sc_ok]
      omega)
  have e1 : copied (arrV (E.2.2.1 1) n1 (fun j => tv (1, G L a j))) (arrV (E.2.2.1 1) n2 (fun j => tv (1, G L2 b j))) (Int32.ofInt 0) (Int32.ofInt 0) (Int32.ofInt (n : Int)) = arrV (E.2.2.1 1) n2 (fun j => tv (1, cpy G L a L2 b n L2 b j)) := by
    have q := va_copied (fun x : Int => tv (1, x)) (E.2.2.1 1) (E.2.2.1 1) (n0 := n1) (n1 := n2) (sp := 0) (dp := 0) (n := n) (fun j => G L a j) (fun j => G L2 b j) (by first | decide | omega)
    show (arrV (E.2.2.1 1) n2 (fun j => tv (1, G L2 b j))).storeRun (Int32.ofInt 0).toNatClampNeg ((arrV (E.2.2.1 1) n1 (fun j => tv (1, G L a j))).stretch (Int32.ofInt 0).toNatClampNeg (Int32.ofInt (n : Int)).toNatClampNeg) = _
    rw [hn', z0, q]
    congr 1
    funext j
    unfold va_cpy
    by_cases w : j < n
    · rw [if_pos ⟨by omega, by omega⟩, cpy_in (by first | decide | omega) (by first | decide | omega), Nat.zero_add, Nat.sub_zero]
    · rw [if_neg (fun h => w (by first | decide | omega)), cpy_out (fun h => w (by first | decide | omega))]
  rw [e1] at X' step
  have hlt : b.toNat < H.size := (Array.getElem?_eq_some_iff.mp hc').1
  have oq : ∀ q : Nat, q ≠ b.toNat → (H.setIfInBounds b.toNat (arrV (E.2.2.1 1) n2 (fun j => tv (1, cpy G L a L2 b n L2 b j))))[q]? = H[q]? := fun q hq => by simp [Array.getElem?_setIfInBounds, Ne.symm hq]
  have hrep : rep E S (cpy G L a L2 b n) (H.setIfInBounds b.toNat (arrV (E.2.2.1 1) n2 (fun j => tv (1, cpy G L a L2 b n L2 b j)))) := by
    refine ⟨by simp; exact hR.1, fun q hq => by rw [oq q (by first | decide | omega)]; exact hR.2.1 q hq, fun a' h' => ?_⟩
    obtain ⟨g1, g2, g3⟩ := hR.2.2 a' h'
    refine ⟨g1, g2, ?_⟩
    by_cases e : a' = b
    · subst e
      rw [hS2]
      unfold cel
      rw [hA2.1]
      refine ⟨by simp [Array.getElem?_setIfInBounds, hlt], fun j hj => ?_⟩
      by_cases q : j < n
      · rw [cpy_in (by first | decide | omega) (by first | decide | omega)]
        exact ho j (by first | decide | omega)
      · rw [cpy_out (fun w => q (by first | decide | omega))]
        exact ho' j hj
    · exact cel_frame g3 (oq _ (by first | decide | omega)) (fun j' => cpy_out (fun q => e q.2.1))
  obtain ⟨t, a1, b1⟩ := k _ _ ls hrep (by simp; exact hz) (fun q hq => by
    rcases List.mem_append.mp hq with h | h
    · exact hL q h
    · obtain ⟨w, -, hw⟩ := List.mem_map.mp h
      rw [← hw]
      exact hb0') hl _ (by rw [← hT]; rfl) X'
  exact ⟨t, step t a1, b1⟩
theorem tm_0 {q x y : Int} (h : q = Int.tmod x y) (hx : 0 ≤ x) (hy : 0 < y) : 0 ≤ q ∧ q ≤ x ∧ q < y ∧ (x < y → q = x) := by
  have b := tm_pos h hx hy
  rw [Int.tmod_eq_emod_of_nonneg hx] at h
  have e := Int.emod_add_mul_ediv x y
  have d0 := Int.ediv_nonneg hx (by omega : 0 ≤ y)
  have m0 := Int.mul_nonneg (by omega : 0 ≤ y) d0
  refine ⟨b.1, by omega, b.2, fun hl => ?_⟩
  rw [h, Int.emod_eq_of_lt hx hl]
theorem tm_1 {q x y : Int} (h : q = Int.tmod x y) (hy : 0 < y) : (0 ≤ x → 0 ≤ q ∧ q ≤ x) ∧ (x ≤ 0 → x ≤ q ∧ q ≤ 0) ∧ (-y < q ∧ q < y) ∧ (-y < x → x < y → q = x) := by
  by_cases hx : 0 ≤ x
  · have := tm_0 h hx hy
    omega
  · have e : -q = Int.tmod (-x) y := by rw [h, Int.neg_tmod]
    have := tm_0 e (by first | decide | omega) hy
    omega
theorem tm_em {q x y : Int} (h : q = Int.tmod x y) (hx : 0 ≤ x) : q = x % y := by rw [h]; exact Int.tmod_eq_emod_of_nonneg hx
theorem tm_all {q x y : Int} (h : q = Int.tmod x y) (hy : y ≠ 0) : (0 ≤ x → 0 ≤ q ∧ q ≤ x) ∧ (x ≤ 0 → x ≤ q ∧ q ≤ 0) ∧ (0 < y → -y < q ∧ q < y) ∧ (y < 0 → y < q ∧ q < -y) ∧ (0 < y → -y < x → x < y → q = x) ∧ (y < 0 → y < x → x < -y → q = x) := by
  by_cases hp : 0 < y
  · have := tm_1 h hp
    omega
  · have e : q = Int.tmod x (-y) := by rw [h, Int.tmod_neg]
    have := tm_1 e (by first | decide | omega)
    omega
end RUC
