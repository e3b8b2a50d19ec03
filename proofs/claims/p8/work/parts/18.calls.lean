section RUC
variable {E : En} {M : Mk} {as : List Vl} {d mc ms : Nat} {Y : Option Vl → Sg → Gh → Prop} {X : Xp} {cs ss : Nat} {S : Sg} {G : Gh} {P : Cod} {pc tgt idx : Nat} {st : List Vl} {lo : Lo} {x y off a L : Int}
theorem r_ret0 (hX : Cl E M as d mc ms Y X) (hP : Dec M.2.1 P) (hf : fd P pc = some (.ireturn, 1)) {ty : FieldType} (hr : M.2.2.2 = some ty) {v : Int} (hn : narrow ty (tv (0, v)) = tv (0, v)) (h1 : cs ≤ mc) (h2 : ss ≤ ms) (k : Y (some (0, v)) S G) : X cs ss pc [(0, v)] lo S G := by
  obtain ⟨p, e, z, m, below, meth, c, hx, hb, hr', hml, hown, hlk, hnm, hts, hK, rfl⟩ := hX
  intro H locs ls hR hz hL hl
  exact W.widen h1 h2 (W.zret hx hb (hr'.trans hr) hn (fun t ht hW => ⟨some (0, v), S, G, rfl, k, hK.warm hW, by rw [ht]; exact hR, by rw [ht]; exact hz⟩) hL (fd_dec hP hf) hlk)
theorem r_retI (hX : Cl E M as d mc ms Y X) (hP : Dec M.2.1 P) (hf : fd P pc = some (.ireturn, 1)) (hr : M.2.2.2 = some .int) {v : Int} (h1 : cs ≤ mc) (h2 : ss ≤ ms) (k : Y (some (0, v)) S G) : X cs ss pc [(0, v)] lo S G := r_ret0 hX hP hf hr rfl h1 h2 k
theorem r_retZ (hX : Cl E M as d mc ms Y X) (hP : Dec M.2.1 P) (hf : fd P pc = some (.ireturn, 1)) (hr : M.2.2.2 = some .boolean) {v : Int} (v1 : 0 ≤ v) (v2 : v ≤ 1) (h1 : cs ≤ mc) (h2 : ss ≤ ms) (k : Y (some (0, v)) S G) : X cs ss pc [(0, v)] lo S G :=
  r_ret0 hX hP hf hr (by rcases (by omega : v = 0 ∨ v = 1) with rfl | rfl <;> rfl) h1 h2 k
theorem r_retL (hX : Cl E M as d mc ms Y X) (hP : Dec M.2.1 P) (hf : fd P pc = some (.lreturn, 1)) (hr : M.2.2.2 = some .long) {v : Int} (h1 : cs ≤ mc) (h2 : ss ≤ ms) (k : Y (some (1, v)) S G) : X cs ss pc [(1, v)] lo S G := by
  obtain ⟨p, e, z, m, below, meth, c, hx, hb, hr', hml, hown, hlk, hnm, hts, hK, rfl⟩ := hX
  intro H locs ls hR hz hL hl
  exact W.widen h1 h2 (W.lret hx hb (hr'.trans hr) (fun t ht hW => ⟨some (1, v), S, G, rfl, k, hK.warm hW, by rw [ht]; exact hR, by rw [ht]; exact hz⟩) hL (fd_dec hP hf) hlk)
theorem r_retV (hX : Cl E M as d mc ms Y X) (hP : Dec M.2.1 P) (hf : fd P pc = some (.return_, 1)) (hr : M.2.2.2 = none) (h1 : cs ≤ mc) (h2 : ss ≤ ms) (k : Y none S G) : X cs ss pc [] lo S G := by
  obtain ⟨p, e, z, m, below, meth, c, hx, hb, hr', hml, hown, hlk, hnm, hts, hK, rfl⟩ := hX
  intro H locs ls hR hz hL hl
  exact W.widen h1 h2 (W.vret hx hb (hr'.trans hr) (fun t ht hW => ⟨none, S, G, rfl, k, hK.warm hW, by rw [ht]; exact hR, by rw [ht]; exact hz⟩) hL (fd_dec hP hf) hlk)
theorem r_retR (hX : Cl E M as d mc ms Y X) (hP : Dec M.2.1 P) (hf : fd P pc = some (.areturn, 1)) {rt : FieldType} (hr : M.2.2.2 = some rt) (hrt : (∃ n, rt = .object n) ∨ ∃ t, rt = .array t) {v : Int} (h1 : cs ≤ mc) (h2 : ss ≤ ms) (k : Y (some (2, v)) S G) : X cs ss pc [(2, v)] lo S G := by
  obtain ⟨p, e, z, m, below, meth, c, hx, hb, hr', hml, hown, hlk, hnm, hts, hK, rfl⟩ := hX
  intro H locs ls hR hz hL hl
  exact W.widen h1 h2 (W.aret hx hb (hr'.trans hr) hrt (tv2_or v) (fun t ht hW => ⟨some (2, v), S, G, rfl, k, hK.warm hW, by rw [ht]; exact hR, by rw [ht]; exact hz⟩) hL (fd_dec hP hf) hlk)
/-- behind a call -/
theorem run_go {p : Program} {e : Env} {R : Room} {s : State} {m : MethodId} {args : Array Value} {below : List Frame} {meth : Method} {c : Code} {H : Heap} {locs : List Loc} {cells slots mc' ms' pc : Nat} {ls : Array Slot} {st0 rest : List Value} {Q : State → Prop} {Y' : Option Vl → Sg → Gh → Prop} {b : Array Value}
    (hr : va_Run p E.1 e R s m args below meth c H locs cells slots mc' ms' (F0 m pc ls st0) rest (Qq E Y' b) (fun q => E.2.2.2.1 ≤ q)) (hz : s.heap.size ≤ H.size) (hL : ∀ q ∈ locs, E.2.2.2.1 ≤ q.base)
    (kk : ∀ (r : Option Vl) (S' : Sg) (G' : Gh) (H1 : Heap) (locs1 : List Loc), Y' r S' G' → rep E S' G' H1 → s.heap.size ≤ H1.size → (∀ q ∈ locs1, E.2.2.2.1 ≤ q.base) → W p E.1 e R s m args below meth c H1 locs1 (cells + mc') (slots + ms') Q (F0 m (pc + 3) ls (ts (r.toList) ++ rest))) : W p E.1 e R s m args below meth c H locs cells slots Q (F0 m pc ls st0) := by
  intro T hT X
  obtain ⟨v, st₀, t, T', LL, h0, X', hLL, e1, e2, ⟨r, S', G', hv, hY, hK', hR', hs'⟩, st⟩ := hr T hT X
  have hv : v = r.map tv := by cases hv; rfl
  subst hv
  rw [h0] at hs'
  obtain ⟨t2, a1, b1⟩ := kk r S' G' T'.heap (locs ++ LL) hY (by rw [e1]; exact hR') (by rw [e1]; omega) (fun q hq => by
    rcases List.mem_append.mp hq with h | h
    · exact hL q h
    · exact hLL q h) T' rfl X'
  refine ⟨t2, st t2 ?_, b1⟩
  have er : (r.map tv).toList = ts r.toList := by cases r <;> rfl
  rw [er]
  exact a1
theorem blind (E : En) (as : List Vl) (S : Sg) (G : Gh) : FrameBlind (Pq E as S G) := fun a U g mk q => ⟨q.1, Kw.same (u := U) (U := U.calling g mk a) rfl q.2.1, q.2.2⟩
def Gd : Prop := GoodIn tb tb
def Co (M' : Mk) (n : Nat) : Prop := Cond.code M'.1 M'.2.1 M'.2.2.1 M'.2.2.2 ∈ tb ∧ Cond.initialized M'.1.cls ∈ tb ∧ M'.1.cls ≠ "java/lang/invoke/MethodHandle" ∧ M'.1.cls ≠ "java/lang/invoke/VarHandle" ∧ (parseMethodDescriptor M'.1.desc).map (fun d => d.parameters.length) = some n ∧ M'.2.2.1 ≤ 80
theorem gd : Gd := fun w hw => ⟨hw, good_of_word (List.mem_filter.mp hw).2⟩
theorem wsy_good (hG : Gd) {M' : Mk} {n : Nat} (h : Co M' n) : GoodIn tb (wsy M') := fun w hw => (List.mem_cons.mp hw).elim (fun e => by rw [e]; exact hG _ h.1) (hG w)
theorem cb_of {s : State} {args : Array Value} {own : String} {idx n d' mc' ms' : Nat} {M' : Mk} (hG : Gd) (hts : ∀ w ∈ tb, w.before args s = true) (h : Co M' n) (hl : Cond.methodLink own idx M'.1 ∈ tb) (hd : d' + 1 ≤ d) : CallB (rm_ d mc ms) s args own idx M'.1 M'.2.1 M'.2.2.1 M'.2.2.2 (wsy M') (rm_ d' mc' ms') mc' ms' n :=
  callB_of n hts (wsy_good hG h) rfl rfl rfl (hts _ h.2.1) (hts _ hl) ⟨h.2.2.1, h.2.2.2.1, h.2.2.2.2.1⟩ ⟨hd, by show 8 + (M'.2.2.1 + 11) + 100 * d' ≤ 100 * d; have := h.2.2.2.2.2; omega⟩
def sc (st : List Vl) : Nat := match st with
  | [] => 0
  | v :: r => (if v.1 = 1 then 2 else 1) + sc r
theorem sc_ok (st : List Vl) : ((ts st).map fun v => v.category).sum = sc st := by
  induction st with
  | nil => rfl
  | cons v r ih =>
    have e : (tv v).category = if v.1 = 1 then 2 else 1 := by
      by_cases h : v.1 = 1
      · rw [if_pos h]; exact tv_cat2 (by simp [t1, h])
      · rw [if_neg h]; exact tv_cat1 (by simp [tn1, h])
    show (tv v).category + ((ts r).map fun v => v.category).sum = _
    rw [e, ih]
    rfl
theorem ts_app (a b : List Vl) : ts (a ++ b) = ts a ++ ts b := List.map_append
theorem ts_rev (a : List Vl) : ts a.reverse = (ts a).reverse := List.map_reverse
/-- a call of an instance method; its object's label L -/
def Cv (own : String) (idx : Nat) (M' : Mk) (L : Int) (n : Nat) : Prop := Co M' n ∧ Cond.methodLink own idx M'.1 ∈ tb ∧ Cond.instanceMethod M'.1 ∈ tb ∧ ∃ (ci N : Nat) (fs : List Ty) (C : String) (T : u_T), lbls[L.toNat]? = some (.inl (ci, fs)) ∧ L ≠ 0 ∧ vwCl[ci]? = some (C, T, N) ∧ Cond.selects C M'.1 M'.1 ∈ tb
theorem r_callV (hG : Gd) (hX : Cl E M as d mc ms Y X) (hP : Dec M.2.1 P) (hf : fd P pc = some (.invokevirtual idx, 3)) {M' : Mk} {n d' mc' ms' : Nat} {as' : List Vl} {stk : List Vl} {Y' : Option Vl → Sg → Gh → Prop} (hC : Cv M.1.cls idx M' L n) (hS : S a = L) (hd : d' + 1 ≤ d) (hmc : cs + mc' ≤ mc) (hms : ss + ms' ≤ ms) (hn : as'.length = n) (hstk : stk = as'.reverse ++ (2, a) :: st) (hsc : sc st ≤ 8)
    (hc : Calls E M' ((2, a) :: as') S G d' mc' ms' Y') (k : ∀ r S' G', Y' r S' G' → X (cs + mc') (ss + ms') (pc + 3) (r.toList ++ st) lo S' G') : X cs ss pc stk lo S G := by
  obtain ⟨p, e, z, m, below, meth, c, hx, hb, hr, hml, hown, hlk, hnm, hts, hK, rfl⟩ := hX
  obtain ⟨h1, h2, h3, ci, N, fs, C, T, h4, h5, h6, h7⟩ := hC
  intro H locs ls hR hz hL hl
  obtain ⟨ha, hb0, hcc⟩ := rep_at hR hS h5
  unfold cel at hcc
  rw [h4] at hcc
  obtain ⟨⟨cell, c1, c2, c3, c4⟩, c5⟩ := hcc
  obtain ⟨hSl, hfc, kC, hkC, hkind⟩ := hK.1.1 ci _ h6
  have eas : ts ((2, a) :: as') = Value.ref a.toNat :: ts as' := by
    show tv (2, a) :: ts as' = _
    rw [tv2 ha]
  have hp : PreV z H C a.toNat (Pq E ((2, a) :: as') S G) (ts as') := ⟨blind _ _ _ _, ⟨cell, c1, by rw [c3]; rfl, by rw [c2]; exact hfc⟩, fun U hU hW => ⟨by rw [eas], hK.warm hW, by rw [hU]; exact hR⟩⟩
  refine run_go (va_runV (As := ts as') (rest := ts st) ⟨hx, hb, hml, hown, hts⟩ hc ⟨cb_of hG hts h1 h2 hd, hts _ h3, hts _ h7⟩ hp rfl (by rw [← hn]; exact List.length_map ..) hl.1 ?_ (lv_room (by rw [sc_ok]; exact hsc)) (fd_dec hP hf) ⟨hmc, hms⟩) hz hL (fun r S' G' H1 locs1 hY hR1 hz1 hL1 => ?_)
  · show ts stk = _
    rw [hstk, ts_app, ts_rev]
    show _ ++ tv (2, a) :: ts st = _
    rw [tv2 ha]
  · have := k r S' G' hY H1 locs1 ls hR1 hz1 hL1 hl
    rw [ts_app] at this
    exact this
/-- a call of a static method -/
def Cs (own : String) (idx : Nat) (M' : Mk) (n : Nat) : Prop := Co M' n ∧ Cond.methodLink own idx M'.1 ∈ tb ∧ Cond.static M'.1 ∈ tb
theorem r_callS (hG : Gd) (hX : Cl E M as d mc ms Y X) (hP : Dec M.2.1 P) (hf : fd P pc = some (.invokestatic idx, 3)) {M' : Mk} {n d' mc' ms' : Nat} {as' : List Vl} {stk : List Vl} {Y' : Option Vl → Sg → Gh → Prop} (hC : Cs M.1.cls idx M' n) (hd : d' + 1 ≤ d) (hmc : cs + mc' ≤ mc) (hms : ss + ms' ≤ ms) (hn : as'.length = n) (hstk : stk = as'.reverse ++ st) (hsc : sc st ≤ 8)
    (hc : Calls E M' as' S G d' mc' ms' Y') (k : ∀ r S' G', Y' r S' G' → X (cs + mc') (ss + ms') (pc + 3) (r.toList ++ st) lo S' G') : X cs ss pc stk lo S G := by
  obtain ⟨p, e, z, m, below, meth, c, hx, hb, hr, hml, hown, hlk, hnm, hts, hK, rfl⟩ := hX
  obtain ⟨h1, h2, h3⟩ := hC
  intro H locs ls hR hz hL hl
  have hp : PreS z H (Pq E as' S G) (ts as') := ⟨blind _ _ _ _, fun U hU hW => ⟨rfl, hK.warm hW, by rw [hU]; exact hR⟩⟩
  refine run_go (va_runS (As := ts as') (rest := ts st) ⟨hx, hb, hml, hown, hts⟩ hc ⟨cb_of hG hts h1 h2 hd, hts _ h3⟩ hp rfl (by rw [← hn]; exact List.length_map ..) hl.1 ?_ (lv_room (by rw [sc_ok]; exact hsc)) (fd_dec hP hf) ⟨hmc, hms⟩) hz hL (fun r S' G' H1 locs1 hY hR1 hz1 hL1 => ?_)
  · show ts stk = _
    rw [hstk, ts_app, ts_rev]
  · have := k r S' G' hY H1 locs1 ls hR1 hz1 hL1 hl
    rw [ts_app] at this
    exact this
end RUC
