theorem outer_arrV (c : ClassId) (N h0 : Nat) : ∀ i : Nat, Jvm.Free.Multi.outerC c N h0 i = arrV c N (fun j => if j < i then .ref (h0 + 1 + j) else .null)
  | 0 => by
    show ({ cls := c, slots := Array.replicate N .null, vm := .none } : Cell) = _
    rw [arrV_new]
    rfl
  | i + 1 => by
    show (Jvm.Free.Multi.outerC c N h0 i).setSlot i (.ref (h0 + 1 + i)) = _
    rw [outer_arrV c N h0 i, arrV_store]
    congr 1
    funext j
    unfold updV
    by_cases e : j = i
    · subst e
      rw [if_pos rfl, if_pos (by first | decide | omega)]
    · rw [if_neg e]
      show (if j < i then Value.ref (h0 + 1 + j) else Value.null) = _
      by_cases e2 : j < i
      · rw [if_pos e2, if_pos (by first | decide | omega)]
      · rw [if_neg e2, if_neg (by first | decide | omega)]
section RUMU
variable {E : En} {M : Mk} {as : List Vl} {d mc ms : Nat} {Y : Option Vl → Sg → Gh → Prop} {X : Xp} {cs ss : Nat} {S : Sg} {G : Gh} {P : Cod} {pc tgt idx : Nat} {st : List Vl} {lo : Lo} {x y off a L L2 : Int}
def mS (S : Sg) (h n : Nat) (L L2 : Int) : Sg := fun x => if x = (h : Int) then L else if (h : Int) + 1 ≤ x ∧ x < (h : Int) + 1 + n then L2 else S x
def mG (G : Gh) (h n : Nat) (L L2 : Int) : Gh := fun L' a' j => if L' = L ∧ a' = (h : Int) then (h : Int) + 1 + j else if L' = L2 ∧ (h : Int) + 1 ≤ a' ∧ a' < (h : Int) + 1 + n then 0 else G L' a' j
theorem mS_in (S : Sg) (h n : Nat) (L L2 : Int) {j : Nat} (hj : j < n) : mS S h n L L2 ((h : Int) + 1 + j) = L2 := by
  unfold mS
  rw [if_neg (by first | decide | omega), if_pos (by first | decide | omega)]
theorem mS_out {S : Sg} {h n : Nat} {L L2 x : Int} (hx : x < h) : mS S h n L L2 x = S x := by
  unfold mS
  rw [if_neg (by first | decide | omega), if_neg (by first | decide | omega)]
theorem gr_multi {H : Heap} {n : Nat} (hR : rep E S G H) : Gr [L, L2] [] S G (mS S H.size n L L2) (mG G H.size n L L2) := by
  have fr : ∀ x : Int, S x ≠ 0 → x < (H.size : Int) := fun x hx => by
    have := cel_lt (hR.2.2 x hx).2.2
    have := (hR.2.2 x hx).1
    omega
  refine ⟨fun x hx => mS_out (fr x hx), fun x hx => ?_, fun x j hx _ => ?_⟩
  · unfold mS
    by_cases e : x = (H.size : Int)
    · rw [if_pos e]; exact Or.inr (by simp)
    · rw [if_neg e]
      by_cases e2 : (H.size : Int) + 1 ≤ x ∧ x < (H.size : Int) + 1 + n
      · rw [if_pos e2]; exact Or.inr (by simp)
      · rw [if_neg e2]; exact Or.inl hx
  · have := fr x hx
    unfold mG
    rw [if_neg (fun q => by have := q.2; omega), if_neg (fun q => by have := q.2.1; omega)]
theorem r_multiA (hX : Cl E M as d mc ms Y X) (hP : Dec M.2.1 P) (hf : fd P pc = some (.multianewarray idx 2, 4)) {n k : Nat} {yl yh : Int} (hA : Al L 4 n (2, L2, 0)) (hA2 : Al L2 1 k (1, yl, yh)) (hy1 : yl ≤ 0) (hy2 : 0 ≤ yh) (hne : L ≠ L2) (w1 : Cond.classLink M.1.cls idx "[[J" ∈ tb) (w2 : Cond.arrayClass .long ∈ tb) (hb1 : n * 4 ≤ 536870912) (hb2 : k * 8 ≤ 536870912) (hmc : cs + (1 + n) ≤ mc) (hms : ss + (n + n * k) ≤ ms)
    (kk : ∀ (a : Int) (S' : Sg) (G' : Gh), S a = 0 → 0 ≤ a → S' a = L → Gr [L, L2] [] S G S' G' → X (cs + 1 + n) (ss + n + n * k) (pc + 4) ((2, a) :: st) lo S' G') : X cs ss pc ((0, (k : Int)) :: (0, (n : Int)) :: st) lo S G := by
  obtain ⟨p, e, z, m, below, meth, c, hx, hb, hr, hml, hown, hlk, hnm, hts, hK, rfl⟩ := hX
  intro H locs ls hR hz hL hl
  have hn : (Int32.ofInt (n : Int)).toInt = n := i32t (by first | decide | omega) (by have := hA.2.2; omega)
  have hn' : (Int32.ofInt (n : Int)).toNatClampNeg = n := by
    show (Int32.ofInt (n : Int)).toInt.toNat = n
    rw [hn]; rfl
  have hk : (Int32.ofInt (k : Int)).toInt = k := i32t (by first | decide | omega) (by have := hA2.2.2; omega)
  have hk' : (Int32.ofInt (k : Int)).toNatClampNeg = k := by
    show (Int32.ofInt (k : Int)).toInt.toNat = k
    rw [hk]; rfl
  simp only [ts, List.map_cons]
  rw [tv0, tv0]
  intro T hT XX
  obtain ⟨vm₁, cA, comp, hW1, hfA, hfC, hO, hI, X1, step⟩ := XX.multianewarray2F hx (own := M.1.cls) (index := idx) (ty := .long) hown (hts _ w1) hK.2.2.2.1.2.2 (hts _ w2)
    (g := F0 m pc ls (.int (Int32.ofInt (k : Int)) :: .int (Int32.ofInt (n : Int)) :: ts st)) rfl (by rw [hb]; exact fd_dec hP hf) (n := Int32.ofInt (n : Int)) (k := Int32.ofInt (k : Int)) (rest := ts st) rfl (by rw [Int32.lt_iff_toInt_lt, hn, Int32.toInt_zero]; omega) (by rw [Int32.lt_iff_toInt_lt, hk, Int32.toInt_zero]; omega) (by rw [hn']; exact hb1) (by rw [hk']; exact hb2) (by rw [hk']; omega) rfl rfl (by rw [hn']; exact hmc) (by rw [hn', hk']; exact hms)
  rw [hn', hk'] at X1 step
  have eA : cA = E.2.2.1 4 := Option.some.inj (hfA.symm.trans (hK.2.2.1 4 (by decide)))
  have eC : comp = E.2.2.1 1 := Option.some.inj (hfC.symm.trans (hK.2.2.1 1 (by decide)))
  subst eA
  subst eC
  obtain ⟨f1, f2, f3⟩ := Jvm.Free.Multi.fill_facts (T.setVm vm₁) (E.2.2.1 4) (E.2.2.1 1) n k (defaultValue .long) n
  have fo := fun (a : Nat) (ha : a < T.heap.size) => Jvm.Free.Multi.fill_old (T.setVm vm₁) (E.2.2.1 4) (E.2.2.1 1) n k (defaultValue .long) (a := a) ha n
  have fi := fun (j : Nat) (hj : j < n) => Jvm.Free.Multi.fill_inner (T.setVm vm₁) (E.2.2.1 4) (E.2.2.1 1) n k (defaultValue .long) n j hj
  have hTv : (T.setVm vm₁).heap = H := hT
  rw [hTv] at f1 f2
  rw [hT, hTv] at fo
  rw [hTv] at fi
  rw [outer_arrV] at f2
  generalize hF : Jvm.Free.Multi.fill (T.setVm vm₁) (E.2.2.1 4) (E.2.2.1 1) n k (defaultValue .long) n = F at X1 step f1 f2 fo fi
  have h0 := rep_fresh hR (Nat.le_refl H.size)
  have hg := gr_multi (L := L) (L2 := L2) (n := n) hR
  have hrep : rep E (mS S H.size n L L2) (mG G H.size n L L2) F.heap := by
    refine ⟨by have := hR.1; omega, fun q hq => by rw [fo q (by have := hR.1; omega)]; exact hR.2.1 q hq, fun x hx => ?_⟩
    by_cases e : x = (H.size : Int)
    · subst e
      have es : mS S H.size n L L2 (H.size : Int) = L := if_pos rfl
      rw [es]
      refine ⟨Int.natCast_nonneg _, by simpa using hR.1, ?_⟩
      unfold cel
      rw [hA.1]
      simp only [Int.toNat_natCast]
      have eg : ∀ j : Int, mG G H.size n L L2 L (H.size : Int) j = (H.size : Int) + 1 + j := fun j => if_pos ⟨rfl, rfl⟩
      refine ⟨?_, fun j hj => ?_⟩
      · rw [f2]
        congr 1
        unfold arrV
        congr 1
        congr 1
        funext j
        show (if j.val < n then Value.ref (H.size + 1 + j.val) else Value.null) = tv (2, mG G H.size n L L2 L (H.size : Int) (j.val : Int))
        rw [eg, if_pos j.2, show ((H.size : Int) + 1 + ((j.val : Nat) : Int)) = ((H.size + 1 + j.val : Nat) : Int) from by omega]
        exact (tvM _).symm
      · rw [eg]
        exact ⟨mS_in S H.size n L L2 hj, hA2.2.1⟩
    · by_cases e2 : (H.size : Int) + 1 ≤ x ∧ x < (H.size : Int) + 1 + n
      · obtain ⟨j, hj, rfl⟩ : ∃ j : Nat, j < n ∧ x = (H.size : Int) + 1 + j := ⟨(x - ((H.size : Int) + 1)).toNat, by omega, by omega⟩
        rw [mS_in S H.size n L L2 hj]
        refine ⟨by omega, by have := hR.1; omega, ?_⟩
        have et : ((H.size : Int) + 1 + (j : Int)).toNat = H.size + 1 + j := by omega
        have eg : ∀ i : Int, mG G H.size n L L2 L2 ((H.size : Int) + 1 + (j : Int)) i = 0 := fun i => by
          unfold mG
          rw [if_neg (fun q => hne q.1.symm), if_pos ⟨rfl, e2.1, e2.2⟩]
        unfold cel
        rw [hA2.1]
        simp only [et]
        refine ⟨?_, fun i hi => by rw [eg]; exact ⟨hy1, hy2⟩⟩
        rw [fi j hj]
        show some ({ cls := E.2.2.1 1, slots := Array.replicate k (defaultValue .long), vm := .none } : Cell) = _
        rw [arrV_new]
        congr 2
        funext i
        rw [eg]
        rfl
      · have es : mS S H.size n L L2 x = S x := by
          unfold mS
          rw [if_neg e, if_neg e2]
        rw [es] at hx ⊢
        obtain ⟨g1, g2, g3⟩ := hR.2.2 x hx
        refine ⟨g1, g2, cel_S hg.1 (cel_frame g3 (fo _ (cel_lt g3)) (fun j => ?_))⟩
        unfold mG
        rw [if_neg (fun q => e q.2), if_neg (fun q => e2 q.2)]
  have k1 := kk (H.size : Int) (mS S H.size n L L2) (mG G H.size n L L2) h0 (Int.natCast_nonneg _) (if_pos rfl) hg F.heap locs ls hrep (by first | decide | omega) hL hl
  simp only [ts, List.map_cons] at k1
  rw [tvM] at k1
  obtain ⟨t, a1, b1⟩ := k1 F rfl X1
  refine ⟨t, step t ?_, b1⟩
  rw [hT]
  exact a1
end RUMU
