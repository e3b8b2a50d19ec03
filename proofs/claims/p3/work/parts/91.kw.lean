/-! what holds at the law's entry -/
def ksC : Cond := Jvm.Cond.and given_1 narrow_1
def ksTm (i : Nat) : Term := .string "ShareLife$Reader" (ksI.getD i 0)
def ksW1 (i : Nat) : List Cond := [Cond.exactly (ksTm i) "java/lang/String", Cond.eq (.field (ksTm i) "java/lang/String" "coder" "B") (.int 0), Cond.arrayOf (.field (ksTm i) "java/lang/String" "value" "[B") .byte, Cond.eq (.length (.field (ksTm i) "java/lang/String" "value" "[B")) (.int (Int32.ofNat (ksL.getD i 0)))]
def ksW2 (i : Nat) : List Cond := (List.range (ksL.getD i 0)).map (fun j => Cond.eq (.elem (.field (ksTm i) "java/lang/String" "value" "[B") (.int (Int32.ofNat j))) (.int ((ksB.getD i []).getD j 0)))
theorem ks_in1 : ((List.range 20).all fun i => (ksW1 i ++ ksW2 i).all fun w => decide (w ∈ flatC ksC)) = true := by decide +kernel
theorem ks_in2 : ((List.range 20).all fun i => (List.range 20).all fun j => decide (i = j) || decide (Cond.not (Cond.eq (ksTm i) (ksTm j)) ∈ flatC ksC) || decide (Cond.not (Cond.eq (ksTm j) (ksTm i)) ∈ flatC ksC)) = true := by decide +kernel
theorem ks_mem {i : Nat} (hi : i < 20) {w : Cond} (hw : w ∈ ksW1 i ++ ksW2 i) : w ∈ flatC ksC := of_decide_eq_true (List.all_eq_true.mp (List.all_eq_true.mp ks_in1 i (List.mem_range.mpr hi)) w hw)
theorem ks_ne {i j : Nat} (hi : i < 20) (hj : j < 20) (h : i ≠ j) : Cond.not (Cond.eq (ksTm i) (ksTm j)) ∈ flatC ksC ∨ Cond.not (Cond.eq (ksTm j) (ksTm i)) ∈ flatC ksC := by
  have := List.all_eq_true.mp (List.all_eq_true.mp ks_in2 i (List.mem_range.mpr hi)) j (List.mem_range.mpr hj)
  simp only [Bool.or_eq_true, decide_eq_true_eq] at this
  rcases this with (q | q) | q
  · exact absurd q h
  · exact Or.inl q
  · exact Or.inr q
theorem ks_str : ∀ i : Nat, i < 20 → Cond.stringRef "ShareLife$Reader" (ksI.getD i 0) (ksT.getD i "") ∈ lw_tbl := by
  intro i hi
  rcases (by omega : i = 0 ∨ i = 1 ∨ i = 2 ∨ i = 3 ∨ i = 4 ∨ i = 5 ∨ i = 6 ∨ i = 7 ∨ i = 8 ∨ i = 9 ∨ i = 10 ∨ i = 11 ∨ i = 12 ∨ i = 13 ∨ i = 14 ∨ i = 15 ∨ i = 16 ∨ i = 17 ∨ i = 18 ∨ i = 19) with rfl | rfl | rfl | rfl | rfl | rfl | rfl | rfl | rfl | rfl | rfl | rfl | rfl | rfl | rfl | rfl | rfl | rfl | rfl | rfl
  · exact (sg4 _ (List.mem_of_getElem? (i := 47) rfl))
  · exact (sg4 _ (List.mem_of_getElem? (i := 120) rfl))
  · exact (sg4 _ (List.mem_of_getElem? (i := 121) rfl))
  · exact (sg4 _ (List.mem_of_getElem? (i := 122) rfl))
  · exact (sg4 _ (List.mem_of_getElem? (i := 123) rfl))
  · exact (sg4 _ (List.mem_of_getElem? (i := 124) rfl))
  · exact (sg4 _ (List.mem_of_getElem? (i := 125) rfl))
  · exact (sg4 _ (List.mem_of_getElem? (i := 126) rfl))
  · exact (sg4 _ (List.mem_of_getElem? (i := 127) rfl))
  · exact (sg4 _ (List.mem_of_getElem? (i := 128) rfl))
  · exact (sg4 _ (List.mem_of_getElem? (i := 129) rfl))
  · exact (sg4 _ (List.mem_of_getElem? (i := 150) rfl))
  · exact (sg4 _ (List.mem_of_getElem? (i := 163) rfl))
  · exact (sg4 _ (List.mem_of_getElem? (i := 164) rfl))
  · exact (sg4 _ (List.mem_of_getElem? (i := 165) rfl))
  · exact (sg4 _ (List.mem_of_getElem? (i := 171) rfl))
  · exact (sg4 _ (List.mem_of_getElem? (i := 192) rfl))
  · exact (sg4 _ (List.mem_of_getElem? (i := 193) rfl))
  · exact (sg4 _ (List.mem_of_getElem? (i := 198) rfl))
  · exact (sg4 _ (List.mem_of_getElem? (i := 199) rfl))
theorem k_cls {s : State} {b : Nat} (hts : ∀ w ∈ lw_tbl, w.before #[Value.ref b] s = true) : ∀ ci : Nat, ∃ q : ClassId × (Nat → Nat), ∀ r, vwCl[ci]? = some r → u_Kn s r.1 r.2.1 r.2.2 q.1 q.2 := by
  have aux : ∀ (ci N : Nat), Cf ci N → (∀ r, vwCl[ci]? = some r → Cond.instantiable r.1 N ∈ lw_tbl) → ∃ q : ClassId × (Nat → Nat), ∀ r, vwCl[ci]? = some r → u_Kn s r.1 r.2.1 r.2.2 q.1 q.2 := by
    intro ci N hc hi
    obtain ⟨C, T, ty, h1, h2, h3, h4⟩ := hc
    obtain ⟨cC, iS, hk⟩ := u_known (C := C) (T := T) (N := N) (n := N) hts (fun w hw => (List.mem_filter.mp (h2 w hw)).1) (hts _ (hi _ h1))
    refine ⟨(cC, iS), fun r hr => ?_⟩
    cases h1.symm.trans hr
    exact hk
  intro ci
  match ci with
  | 0 => exact aux 0 3 cf_Jx4a65c (fun r hr => by cases hr; exact (sg1 _ (List.mem_of_getElem? (i := 126) rfl)))
  | 1 => exact aux 1 18 cf_X0 (fun r hr => by cases hr; exact (sg1 _ (List.mem_of_getElem? (i := 45) rfl)))
  | 2 => exact aux 2 9 cf_X1 (fun r hr => by cases hr; exact (sg3 _ (List.mem_of_getElem? (i := 17) rfl)))
  | 3 => exact aux 3 7 cf_X2 (fun r hr => by cases hr; exact (sg4 _ (List.mem_of_getElem? (i := 201) rfl)))
  | 4 => exact aux 4 17 cf_X3 (fun r hr => by cases hr; exact (sg6 _ (List.mem_of_getElem? (i := 37) rfl)))
  | 5 => exact aux 5 6 cf_X4 (fun r hr => by cases hr; exact (sg1 _ (List.mem_of_getElem? (i := 237) rfl)))
  | 6 => exact aux 6 6 cf_X5 (fun r hr => by cases hr; exact (sg5 _ (List.mem_of_getElem? (i := 26) rfl)))
  | 7 => exact aux 7 17 cf_X6 (fun r hr => by cases hr; exact (sg2 _ (List.mem_of_getElem? (i := 25) rfl)))
  | 8 => exact aux 8 17 cf_X7 (fun r hr => by cases hr; exact (sg2 _ (List.mem_of_getElem? (i := 86) rfl)))
  | 9 => exact aux 9 20 cf_X8 (fun r hr => by cases hr; exact (sg1 _ (List.mem_of_getElem? (i := 36) rfl)))
  | 10 => exact aux 10 16 cf_X9 (fun r hr => by cases hr; exact (sg3 _ (List.mem_of_getElem? (i := 161) rfl)))
  | 11 => exact aux 11 20 cf_X11 (fun r hr => by cases hr; exact (sg1 _ (List.mem_of_getElem? (i := 28) rfl)))
  | 12 => exact aux 12 138 cf12 (fun r hr => by cases hr; exact (sg7 _ (List.mem_of_getElem? (i := 125) rfl)))
  | n + 13 => exact ⟨(0, fun _ => 0), fun r hr => by cases hr⟩
theorem k_arr {s : State} {b : Nat} (hts : ∀ w ∈ lw_tbl, w.before #[Value.ref b] s = true) : ∃ f : Nat → ClassId, (∀ t : Nat, ArrOfT s (f t) (aty t)) ∧ ∀ t : Nat, t < 6 → s.vm.findClass ("[" ++ (aty t).toString) = some (f t) := by
  have ac : ∀ ty : FieldType, Cond.arrayClass ty ∈ lw_tbl → ∃ c : ClassId, ArrOfT s c ty ∧ s.vm.findClass ("[" ++ ty.toString) = some c := by
    intro ty hw
    obtain ⟨c, k, comp, h1, h2, h3⟩ := Cond.arrayClass_spec (hts _ hw)
    exact ⟨c, fun N z => ⟨(fun k h => by cases h), k, h2, comp, h3⟩, h1⟩
  obtain ⟨c0, a0, n0⟩ := ac .int (sg1 _ (List.mem_of_getElem? (i := 124) rfl))
  obtain ⟨c1, a1, n1⟩ := ac .long (sg1 _ (List.mem_of_getElem? (i := 123) rfl))
  obtain ⟨c2, a2, n2⟩ := ac .byte (sg4 _ (List.mem_of_getElem? (i := 232) rfl))
  obtain ⟨c3, a3, n3⟩ := ac .boolean (sg2 _ (List.mem_of_getElem? (i := 147) rfl))
  obtain ⟨comp4, c4, k4, -, -, g2, g3, n4⟩ := arrayOverA_spec (hts _ (sg1 _ (List.mem_of_getElem? (i := 43) rfl)))
  obtain ⟨comp5, c5, k5, -, -, h2, h3, n5⟩ := Cond.arrayOver_spec (hts _ (sg3 _ (List.mem_of_getElem? (i := 119) rfl)))
  refine ⟨fun t => match t with | 0 => c0 | 1 => c1 | 2 => c2 | 3 => c3 | 4 => c4 | _ => c5, fun t => ?_, fun t ht => ?_⟩
  · match t with
    | 0 => exact a0
    | 1 => exact a1
    | 2 => exact a2
    | 3 => exact a3
    | 4 => exact fun N z => ⟨(fun k h => by cases h), k4, g2, comp4, g3⟩
    | n + 5 => exact fun N z => ⟨(fun k h => by cases h), k5, h2, comp5, h3⟩
  · match t, ht with
    | 0, _ => exact n0
    | 1, _ => exact n1
    | 2, _ => exact n2
    | 3, _ => exact n3
    | 4, _ => exact n4
    | 5, _ => exact n5
    | n + 6, h => omega
theorem kw_start {p : Program} {s : State} {m : MethodId} {meth : Method} {c : Code} {b L : Nat} {xs : Nat → Int32} (l : Launch) (hts : ∀ w ∈ lw_tbl, w.before #[Value.ref b] s = true) (hg : ksC.before #[Value.ref b] s = true) : ∃ E : En, E.1 = l ∧ E.2.2.2.1 = s.heap.size ∧ E.2.2.2.2.1 = s.heap ∧ Kw E s := by
  have hs := flat_of_before _ hg
  have hA : ∀ a : Nat, a < s.heap.size → ¬ s.heap.size ≤ a := fun a h => Nat.not_le.mpr h
  obtain ⟨D, hD⟩ := Classical.axiomOfChoice (k_cls hts)
  obtain ⟨f, hf1, hf2⟩ := k_arr hts
  obtain ⟨adK, adV, hS, hR⟩ := vk_Sof (N := 20) (tm := ksTm) (len := ksL) (byt := ksB) (A := fun q => s.heap.size ≤ q) (args := #[Value.ref b]) (s := s) (fun i hi => by rcases (by omega : i = 0 ∨ i = 1 ∨ i = 2 ∨ i = 3 ∨ i = 4 ∨ i = 5 ∨ i = 6 ∨ i = 7 ∨ i = 8 ∨ i = 9 ∨ i = 10 ∨ i = 11 ∨ i = 12 ∨ i = 13 ∨ i = 14 ∨ i = 15 ∨ i = 16 ∨ i = 17 ∨ i = 18 ∨ i = 19) with rfl | rfl | rfl | rfl | rfl | rfl | rfl | rfl | rfl | rfl | rfl | rfl | rfl | rfl | rfl | rfl | rfl | rfl | rfl | rfl <;> decide) (fun i hi => hs _ (ks_mem hi (by simp [ksW1]))) (fun i hi => hs _ (ks_mem hi (by simp [ksW1]))) (fun i hi => hs _ (ks_mem hi (by simp [ksW1]))) (fun i hi => hs _ (ks_mem hi (by simp [ksW1])))
    (fun i hi j hj => hs _ (ks_mem hi (List.mem_append_right _ (List.mem_map.mpr ⟨j, List.mem_range.mpr hj, rfl⟩)))) (fun i j hi hj h => (ks_ne hi hj h).imp (hs _) (hs _)) hA
  obtain ⟨t0, ht0, hT0⟩ := va_Tof (N := 0) (f := fun _ => .null) (A := fun q => s.heap.size ≤ q) (tm := .static "java/util/ArrayList" "DEFAULTCAPACITY_EMPTY_ELEMENTDATA" "[Ljava/lang/Object;") (ty := .object "java/lang/Object") (args := #[Value.ref b]) (s := s) (by decide) (hs _ (by decide +kernel)) (va_eqt (z := 0) (hs _ (by decide +kernel))) (fun j hj => absurd hj (Nat.not_lt_zero j)) hA
  obtain ⟨mi, hmi⟩ := va_Mi.of (args := #[Value.ref b]) (s := s) (C := "[Ljava/lang/Object;") (hs _ (by decide +kernel))
  let adf : Int → Int := fun x => if x = 0 then (t0 : Int) else if x = -300 then (mi : Int) else if -200 < x then (adK (-100 - x).toNat : Int) else (adV (-200 - x).toNat : Int)
  refine ⟨(l, ((fun c => (D c).1), (fun c => (D c).2)), f, s.heap.size, s.heap, adf), rfl, rfl, rfl, ⟨fun c q hq => hD c q hq, fun k q hq => by cases hq⟩, hf1, hf2, ⟨fun w hw => ?_, va_AO.of (hts _ (sg3 _ (List.mem_of_getElem? (i := 119) rfl))), ?_⟩, ?_, ?_, ?_, ?_, ?_, ?_, ?_, ?_⟩
  · have h := List.mem_filter.mp hw
    refine va_Nw.of ?_ (hts w h.1)
    have h2 := h.2
    revert h2
    cases w <;> intro h2 <;> first | rfl | cases h2
  · exact Jvm.Stand.arrayOver_alikeB (Vm.Alike.refl _) (hts _ (sg1 _ (List.mem_of_getElem? (i := 43) rfl)))
  · exact va_Zref (hts _ (sg1 _ (List.mem_of_getElem? (i := 138) rfl))) (hts _ (sg1 _ (List.mem_of_getElem? (i := 6) rfl))) ht0 hA
  · exact hT0
  · exact Int.natCast_nonneg t0
  · exact va_Zof (hts _ (sg4 _ (List.mem_of_getElem? (i := 61) rfl))) (hts _ (sg1 _ (List.mem_of_getElem? (i := 18) rfl))) (va_eqt (hs _ (by decide +kernel))) hA
  · exact va_Zqof (hts _ (sg4 _ (List.mem_of_getElem? (i := 77) rfl))) (hts _ (sg1 _ (List.mem_of_getElem? (i := 20) rfl))) (hs _ (by decide +kernel)) hA
  · exact hmi
  · intro i hi
    have e : ksK (l, ((fun c => (D c).1), (fun c => (D c).2)), f, s.heap.size, s.heap, adf) i = adK i := by
      show (adf (-100 - (i : Int))).toNat = adK i
      show (if (-100 - (i : Int)) = 0 then (t0 : Int) else if (-100 - (i : Int)) = -300 then (mi : Int) else if -200 < (-100 - (i : Int)) then (adK (-100 - (-100 - (i : Int))).toNat : Int) else (adV (-200 - (-100 - (i : Int))).toNat : Int)).toNat = adK i
      rw [if_neg (by omega), if_neg (by omega), if_pos (by omega), show (-100 - (-100 - (i : Int))).toNat = i from by omega]
      rfl
    rw [e]
    exact vk_R.of (hts _ (ks_str i hi)) (hR i hi)
  · have e1 : ∀ i : Nat, i < 20 → ksK (l, ((fun c => (D c).1), (fun c => (D c).2)), f, s.heap.size, s.heap, adf) i = adK i := fun i hi => by
      show (if (-100 - (i : Int)) = 0 then (t0 : Int) else if (-100 - (i : Int)) = -300 then (mi : Int) else if -200 < (-100 - (i : Int)) then (adK (-100 - (-100 - (i : Int))).toNat : Int) else (adV (-200 - (-100 - (i : Int))).toNat : Int)).toNat = adK i
      rw [if_neg (by omega), if_neg (by omega), if_pos (by omega), show (-100 - (-100 - (i : Int))).toNat = i from by omega]
      rfl
    have e2 : ∀ i : Nat, i < 20 → ksV (l, ((fun c => (D c).1), (fun c => (D c).2)), f, s.heap.size, s.heap, adf) i = adV i := fun i hi => by
      show (if (-200 - (i : Int)) = 0 then (t0 : Int) else if (-200 - (i : Int)) = -300 then (mi : Int) else if -200 < (-200 - (i : Int)) then (adK (-100 - (-200 - (i : Int))).toNat : Int) else (adV (-200 - (-200 - (i : Int))).toNat : Int)).toNat = adV i
      rw [if_neg (by omega), if_neg (by omega), if_neg (by omega), show (-200 - (-200 - (i : Int))).toNat = i from by omega]
      rfl
    refine ⟨fun i hi => ?_, fun i j hi hj e => ?_⟩
    · rw [e1 i hi, e2 i hi]
      exact hS.1 i hi
    · rw [e1 i hi, e1 j hj] at e
      exact hS.2 i j hi hj e
