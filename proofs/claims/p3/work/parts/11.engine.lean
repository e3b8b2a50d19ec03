/-! THE ENGINE: whole numbers for values, labels for addresses, a table of labels; a judgement X for a method's run -/
abbrev Vl : Type := Nat × Int
abbrev Lo : Type := List (Nat × Vl)
abbrev Sg : Type := Int → Int
abbrev Gh : Type := Int → Int → Int → Int
abbrev En : Type := Launch × va_G × (Nat → ClassId) × Nat × Heap × (Int → Int)
def Ad (E : En) (L : Int) : Int := E.2.2.2.2.2 L
abbrev Xp : Type := Nat → Nat → Nat → List Vl → Lo → Sg → Gh → Prop
def tv (v : Vl) : Value := match v.1 with
  | 0 => .int (Int32.ofInt v.2)
  | 1 => .long (Int64.ofInt v.2)
  | _ => if v.2 < 0 then .null else .ref v.2.toNat
def tl (l : Lo) : List (Nat × Value) := l.map fun q => (q.1, tv q.2)
def ts (l : List Vl) : List Value := l.map tv
def aty : Nat → FieldType
  | 0 => .int
  | 1 => .long
  | 2 => .byte
  | 3 => .boolean
  | 4 => .array .long
  | _ => .object "java/lang/Object"
def okv (E : En) (S : Sg) (t : Ty) (x : Int) : Prop := match t.1 with
  | 0 => t.2.1 ≤ x ∧ x ≤ t.2.2
  | 1 => t.2.1 ≤ x ∧ x ≤ t.2.2
  | 2 => S x = t.2.1 ∧ t.2.1 ≠ 0
  | 3 => x = -1 ∨ (S x = t.2.1 ∧ t.2.1 ≠ 0)
  | _ => x = Ad E t.2.1 ∧ S x = t.2.1 ∧ t.2.1 ≠ 0
def cel (E : En) (S : Sg) (G : Gh) (H : Heap) (L a : Int) : Prop := match lbls[L.toNat]? with
  | some (.inl (ci, fs)) => t_OB a.toNat (E.2.1.1 ci) fs.length (E.2.1.2 ci) H (fun j => tv ((fs.getD j (0, 0, 0)).1, G L a j)) ∧ ∀ j : Nat, j < fs.length → okv E S (fs.getD j (0, 0, 0)) (G L a j)
  | some (.inr (t, n, y)) => H[a.toNat]? = some (arrV (E.2.2.1 t) n (fun j => tv (y.1, G L a j))) ∧ ∀ j : Nat, j < n → okv E S y (G L a j)
  | none => False
def rep (E : En) (S : Sg) (G : Gh) (H : Heap) : Prop := E.2.2.2.1 ≤ H.size ∧ (∀ q : Nat, q < E.2.2.2.1 → H[q]? = E.2.2.2.2.1[q]?) ∧ ∀ a : Int, S a ≠ 0 → 0 ≤ a ∧ E.2.2.2.1 ≤ a.toNat ∧ cel E S G H (S a) a
def Kw (E : En) (U : State) : Prop := va_K E.2.1 vwCl [] U ∧ (∀ t : Nat, ArrOfT U (E.2.2.1 t) (aty t)) ∧ ∀ t : Nat, t < 4 → U.vm.findClass ("[" ++ (aty t).toString) = some (E.2.2.1 t)
theorem Kw.moved {E : En} {u U : State} (hvm : u.vm.Alike U.vm) (h : Kw E u) : Kw E U := ⟨va_K.moved hvm h.1, fun t => arrOfT_moved hvm (h.2.1 t), fun t ht => by rw [hvm.findClass]; exact h.2.2 t ht⟩
/-- the words that a callee may be handed -/
def tb : List Cond := lw_tbl.filter goodWord
theorem tbm {w : Cond} (i : Nat) (h : lw_tbl[i]? = some w) (g : goodWord w = true) : w ∈ tb := List.mem_filter.mpr ⟨List.mem_of_getElem? h, g⟩
theorem tbs {ws : List Cond} (ps : List Nat) (h : (decide (ws = ps.filterMap (fun i => lw_tbl[i]?)) && ws.all goodWord) = true) : ∀ w ∈ ws, w ∈ tb := by
  intro w hw
  rw [Bool.and_eq_true, decide_eq_true_eq] at h
  have h1 := List.all_eq_true.mp h.2 w hw
  rw [h.1] at hw
  obtain ⟨i, -, hi⟩ := List.mem_filterMap.mp hw
  exact tbm i hi h1
def rm_ (d mc ms : Nat) : Room := { frames := d, cells := mc, slots := ms, locals := 100 * d }
def wsy (M : Mk) : List Cond := Cond.code M.1 M.2.1 M.2.2.1 M.2.2.2 :: tb
def Pq (E : En) (as : List Vl) (S : Sg) (G : Gh) : Array Value → State → Prop := fun v U => v = (ts as).toArray ∧ Kw E U ∧ rep E S G U.heap
def Qq (E : En) (Y : Option Vl → Sg → Gh → Prop) : Array Value → State → Outcome → State → Prop := fun _ st oc t => ∃ (r : Option Vl) (S' : Sg) (G' : Gh), oc = .returned (r.map tv) ∧ Y r S' G' ∧ Kw E t ∧ rep E S' G' t.heap ∧ st.heap.size ≤ t.heap.size
def Calls (E : En) (M : Mk) (as : List Vl) (S : Sg) (G : Gh) (d mc ms : Nat) (Y : Option Vl → Sg → Gh → Prop) : Prop := Met E.1 M.1 (wsy M) (rm_ d mc ms) (Pq E as S G) (Qq E Y) mc ms (fun q => E.2.2.2.1 ≤ q)
def Cl (E : En) (M : Mk) (as : List Vl) (d mc ms : Nat) (Y : Option Vl → Sg → Gh → Prop) (X : Xp) : Prop := ∃ (p : Program) (e : Env) (s : State) (m : MethodId) (below : List Frame) (meth : Method) (c : Code),
  p.tables.exec = Jvm.exec ∧ c.code = M.2.1 ∧ meth.sig.returnType = M.2.2.2 ∧ c.maxLocals = M.2.2.1 ∧ s.vm.findClass M.1.cls = some m.cls ∧ meth.locks = false ∧ meth.name = M.1.name ∧ (∀ w ∈ tb, w.before (ts as).toArray s = true) ∧ Kw E s ∧
  X = fun cs ss pc st lo S G => ∀ (H : Heap) (locs : List Loc) (ls : Array Slot), rep E S G H → s.heap.size ≤ H.size → (∀ q ∈ locs, E.2.2.2.1 ≤ q.base) → lv_has ls M.2.2.1 (tl lo) →
    W p E.1 e (rm_ d mc ms) s m (ts as).toArray below meth c H locs cs ss (MQ below (Qq E Y) (ts as).toArray s mc ms (fun q => E.2.2.2.1 ≤ q)) (F0 m pc ls (ts st))
/-- a contract out of a run -/
theorem calls_of {E : En} {M : Mk} {as : List Vl} {S : Sg} {G : Gh} {d mc ms : Nat} {Y : Option Vl → Sg → Gh → Prop} (lo : Lo) (hy : plainName M.1.cls = true) (hl : lv_args 0 (ts as) = tl lo) (hn : (lg_sl (ts as)).length ≤ M.2.2.1)
    (h : ∀ X, Cl E M as d mc ms Y X → X 0 0 0 [] lo S G) : Calls E M as S G d mc ms Y := by
  obtain ⟨y, cc, nL, ret⟩ := M
  refine Met.ofW (cc := cc) (maxL := nL) (ret := ret) hy rfl ?_
  intro p e s m args below meth c s₁ B hml hv
  obtain ⟨rfl, hK, hR⟩ := hv
  have hts := atoms_spec (ws := wsy (y, cc, nL, ret)) B.pre
  have hh := lv_entry (ts as) hn
  rw [lg_entry_eq]
  rw [hl] at hh
  exact h _ ⟨p, e, s, m, below, meth, c, B.exec, B.bytes, B.returns, hml, findClass_of_methodNamed B.named, B.notSynchronized, (name_of_methodNamed B.named B.method).1, fun w hw => hts w (List.mem_cons_of_mem _ hw), hK, rfl⟩ s.heap [] _ hR (Nat.le_refl _) (fun _ h => by cases h) hh
/-- weaker ends -/
theorem calls_mono {E : En} {M : Mk} {as : List Vl} {S : Sg} {G : Gh} {d mc ms : Nat} {Y Z : Option Vl → Sg → Gh → Prop} (h : Calls E M as S G d mc ms Y) (hz : ∀ r S' G', Y r S' G' → Z r S' G') : Calls E M as S G d mc ms Z := by
  intro p e ha hc hk s m args below hf hfit hP hT
  obtain ⟨t, o, h1, h2, h3, ⟨r, S', G', q1, q2, q3⟩, h5⟩ := h p e ha hc hk s m args below hf hfit hP hT
  exact ⟨t, o, h1, h2, h3, ⟨r, S', G', q1, hz _ _ _ q2, q3⟩, h5⟩
