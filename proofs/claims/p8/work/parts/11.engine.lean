/-! THE ENGINE: whole numbers for values, labels for addresses, a table of labels; a judgement X for a method's run -/
abbrev Vl : Type := Nat × Int
abbrev Lo : Type := List (Nat × Vl)
abbrev Sg : Type := Int → Int
abbrev Gh : Type := Int → Int → Int → Int
abbrev En : Type := Launch × va_G × (Nat → ClassId) × Nat × Heap × (Int → Int)
def Ad (E : En) (L : Int) : Int := E.2.2.2.2.2 L
abbrev Xp : Type := Nat → Nat → Nat → List Vl → Lo → Sg → Gh → Prop
def tv (v : Vl) : Value := match v.1 with
  | 0 => .int (Int32.ofInt v.2)
  | 1 => .long (Int64.ofInt v.2)
  | _ => if v.2 < 0 then .null else .ref v.2.toNat
def tl (l : Lo) : List (Nat × Value) := l.map fun q => (q.1, tv q.2)
def ts (l : List Vl) : List Value := l.map tv
def aty : Nat → FieldType
  | 0 => .int
  | 1 => .long
  | 2 => .byte
  | 3 => .boolean
  | 4 => .array .long
  | _ => .object "java/lang/Object"
def okv (E : En) (S : Sg) (t : Ty) (x : Int) : Prop := match t.1 with
  | 0 => t.2.1 ≤ x ∧ x ≤ t.2.2
  | 1 => t.2.1 ≤ x ∧ x ≤ t.2.2
  | 2 => S x = t.2.1 ∧ t.2.1 ≠ 0
  | 3 => x = -1 ∨ (S x = t.2.1 ∧ t.2.1 ≠ 0)
  | 5 => x = Ad E 0 ∨ (t.2.1 ≤ S x ∧ S x ≤ t.2.2 ∧ 0 < t.2.1)
  | 6 => x = -1 ∨ x = Ad E 0
  | _ => x = Ad E t.2.1 ∧ S x = t.2.1 ∧ t.2.1 ≠ 0
def cel (E : En) (S : Sg) (G : Gh) (H : Heap) (L a : Int) : Prop := match lbls[L.toNat]? with
  | some (.inl (ci, fs)) => t_OB a.toNat (E.2.1.1 ci) fs.length (E.2.1.2 ci) H (fun j => tv ((fs.getD j (0, 0, 0)).1, G L a j)) ∧ ∀ j : Nat, j < fs.length → okv E S (fs.getD j (0, 0, 0)) (G L a j)
  | some (.inr (t, n, y)) => H[a.toNat]? = some (arrV (E.2.2.1 t) n (fun j => tv (y.1, G L a j))) ∧ ∀ j : Nat, j < n → okv E S y (G L a j)
  | none => False
def rep (E : En) (S : Sg) (G : Gh) (H : Heap) : Prop := E.2.2.2.1 ≤ H.size ∧ (∀ q : Nat, q < E.2.2.2.1 → H[q]? = E.2.2.2.2.1[q]?) ∧ ∀ a : Int, S a ≠ 0 → 0 ≤ a ∧ E.2.2.2.1 ≤ a.toNat ∧ cel E S G H (S a) a
/-- what lies ahead of the law's own cells and is read alone: the text constants, three statics, a class object -/
def ksI : List Nat := [111, 147, 149, 151, 153, 155, 157, 158, 159, 160, 162, 200, 215, 217, 219, 221, 230, 232, 211, 213]
def ksT : List String := ["else", "give", "take", "coin", "pay", "worth", "fraction", "when", "choice", "default", "most", "to", "down", "up", "near", "has", "small", "rata", "of", "for"]
def ksL : List Nat := [4, 4, 4, 4, 3, 5, 8, 4, 6, 7, 4, 2, 4, 2, 4, 3, 5, 4, 2, 3]
def ksB : List (List Int32) := [[101, 108, 115, 101], [103, 105, 118, 101], [116, 97, 107, 101], [99, 111, 105, 110], [112, 97, 121], [119, 111, 114, 116, 104], [102, 114, 97, 99, 116, 105, 111, 110], [119, 104, 101, 110], [99, 104, 111, 105, 99, 101], [100, 101, 102, 97, 117, 108, 116], [109, 111, 115, 116], [116, 111], [100, 111, 119, 110], [117, 112], [110, 101, 97, 114], [104, 97, 115], [115, 109, 97, 108, 108], [114, 97, 116, 97], [111, 102], [102, 111, 114]]
def ksK (E : En) (i : Nat) : Nat := (Ad E (-100 - (i : Int))).toNat
def ksV (E : En) (i : Nat) : Nat := (Ad E (-200 - (i : Int))).toNat
/-- words that stay good by laws of their own -/
def xk : Cond → Bool
  | .castable _ _ => true
  | .fieldLinkNest .. => true
  | .methodLinkNest .. => true
  | .declares _ => true
  | _ => false
theorem nw_warm {w : Cond} (h : xk w = true) {s U : State} (hW : s.WarmedH U.vm) (hZ : va_Nw w s) : va_Nw w U := by
  cases w <;> first | exact va_Nw.warmC hW hZ | exact va_Nw.warmF hW hZ | exact va_Nw.warmM hW hZ | exact va_Nw.warmD hW hZ | cases h
theorem nw_same {w : Cond} (h : xk w = true) {u U : State} (hv : U.vm = u.vm) (hZ : va_Nw w u) : va_Nw w U := va_Nw.same (by cases w <;> first | rfl | cases h) hv.symm hZ
def xwl : List Cond := lw_tbl.filter xk
def AOJ (U : State) : Prop := (Cond.arrayOver (.array .long)).before #[] U = true
theorem AOJ.moved {u U : State} (hvm : u.vm.Alike U.vm) (h : AOJ u) : AOJ U := Jvm.Stand.arrayOver_alikeB hvm h
def KX (U : State) : Prop := (∀ w ∈ xwl, va_Nw w U) ∧ va_AO "java/lang/Object" U ∧ AOJ U
def KS (E : En) (U : State) : Prop := KX U ∧ va_Z "java/util/ArrayList" "DEFAULTCAPACITY_EMPTY_ELEMENTDATA" "[Ljava/lang/Object;" (.ref (Ad E 0).toNat) (fun q => E.2.2.2.1 ≤ q) U E.2.2.2.2.1 ∧ va_T (.object "java/lang/Object") (Ad E 0).toNat 0 (fun _ => .null) (fun q => E.2.2.2.1 ≤ q) U E.2.2.2.2.1 ∧ 0 ≤ Ad E 0 ∧ va_Z "java/lang/String" "COMPACT_STRINGS" "Z" (.int 1) (fun q => E.2.2.2.1 ≤ q) U E.2.2.2.2.1 ∧ va_Zq "jdk/internal/util/Preconditions" "SIOOBE_FORMATTER" "Ljava/util/function/BiFunction;" (fun q => E.2.2.2.1 ≤ q) U E.2.2.2.2.1 ∧ va_Mi "[Ljava/lang/Object;" (Ad E (-300)).toNat U ∧ (∀ i : Nat, i < 20 → vk_R "ShareLife$Reader" (ksI.getD i 0) (ksT.getD i "") (ksK E i) U) ∧ vk_S 20 ksL ksB (ksK E) (ksV E) (fun q => E.2.2.2.1 ≤ q) U E.2.2.2.2.1
def Kw (E : En) (U : State) : Prop := va_K E.2.1 vwCl [] U ∧ (∀ t : Nat, ArrOfT U (E.2.2.1 t) (aty t)) ∧ (∀ t : Nat, t < 6 → U.vm.findClass ("[" ++ (aty t).toString) = some (E.2.2.1 t)) ∧ KS E U
theorem KS.al {E : En} {u U : State} (hvm : u.vm.Alike U.vm) (hx : ∀ w ∈ xwl, va_Nw w u → va_Nw w U) (hr : ∀ (k : Nat) (tx : String) (a : Nat), vk_R "ShareLife$Reader" k tx a u → vk_R "ShareLife$Reader" k tx a U) (h : KS E u) : KS E U := by
  obtain ⟨⟨h01, h02, h03⟩, h1, h2, h3, h4, h5, h6, h7, h8⟩ := h
  exact ⟨⟨fun w hw => hx w hw (h01 w hw), va_AO.moved hvm h02, AOJ.moved hvm h03⟩, va_Z.moved hvm h1, va_T.moved hvm h2, h3, va_Z.moved hvm h4, va_Zq.moved hvm h5, va_Mi.moved hvm h6, fun i hi => hr _ _ _ (h7 i hi), vk_S.moved hvm h8⟩
theorem Kw.al {E : En} {u U : State} (hvm : u.vm.Alike U.vm) (hx : ∀ w ∈ xwl, va_Nw w u → va_Nw w U) (hr : ∀ (k : Nat) (tx : String) (a : Nat), vk_R "ShareLife$Reader" k tx a u → vk_R "ShareLife$Reader" k tx a U) (h : Kw E u) : Kw E U := ⟨va_K.moved hvm h.1, fun t => arrOfT_moved hvm (h.2.1 t), fun t ht => by rw [hvm.findClass]; exact h.2.2.1 t ht, KS.al hvm hx hr h.2.2.2⟩
theorem Kw.same {E : En} {u U : State} (hv : U.vm = u.vm) (h : Kw E u) : Kw E U := Kw.al (by rw [hv]; exact Vm.Alike.refl u.vm) (fun w hw q => nw_same (List.mem_filter.mp hw).2 hv q) (fun _ _ _ q => vk_R.same hv q) h
theorem Kw.warm {E : En} {s U : State} (h : Kw E s) (hW : s.WarmedH U.vm) : Kw E U := Kw.al hW.alike (fun w hw q => nw_warm (List.mem_filter.mp hw).2 hW q) (fun _ _ _ q => vk_R.warm hW q) h
/-- the words that a callee may be handed -/
def tb : List Cond := lw_tbl.filter goodWord
theorem tbm {w : Cond} (i : Nat) (h : lw_tbl[i]? = some w) (g : goodWord w = true) : w ∈ tb := List.mem_filter.mpr ⟨List.mem_of_getElem? h, g⟩
theorem tbs {ws : List Cond} (ps : List Nat) (h : (decide (ws = ps.filterMap (fun i => lw_tbl[i]?)) && ws.all goodWord) = true) : ∀ w ∈ ws, w ∈ tb := by
  intro w hw
  rw [Bool.and_eq_true, decide_eq_true_eq] at h
  have h1 := List.all_eq_true.mp h.2 w hw
  rw [h.1] at hw
  obtain ⟨i, -, hi⟩ := List.mem_filterMap.mp hw
  exact tbm i hi h1
def rm_ (d mc ms : Nat) : Room := { frames := d, cells := mc, slots := ms, locals := 100 * d }
def wsy (M : Mk) : List Cond := Cond.code M.1 M.2.1 M.2.2.1 M.2.2.2 :: tb
def Pq (E : En) (as : List Vl) (S : Sg) (G : Gh) : Array Value → State → Prop := fun v U => v = (ts as).toArray ∧ Kw E U ∧ rep E S G U.heap
def Qq (E : En) (Y : Option Vl → Sg → Gh → Prop) : Array Value → State → Outcome → State → Prop := fun _ st oc t => ∃ (r : Option Vl) (S' : Sg) (G' : Gh), oc = .returned (r.map tv) ∧ Y r S' G' ∧ Kw E t ∧ rep E S' G' t.heap ∧ st.heap.size ≤ t.heap.size
def Calls (E : En) (M : Mk) (as : List Vl) (S : Sg) (G : Gh) (d mc ms : Nat) (Y : Option Vl → Sg → Gh → Prop) : Prop := Met E.1 M.1 (wsy M) (rm_ d mc ms) (Pq E as S G) (Qq E Y) mc ms (fun q => E.2.2.2.1 ≤ q)
def Cl (E : En) (M : Mk) (as : List Vl) (d mc ms : Nat) (Y : Option Vl → Sg → Gh → Prop) (X : Xp) : Prop := ∃ (p : Program) (e : Env) (s : State) (m : MethodId) (below : List Frame) (meth : Method) (c : Code),
  p.tables.exec = Jvm.exec ∧ c.code = M.2.1 ∧ meth.sig.returnType = M.2.2.2 ∧ c.maxLocals = M.2.2.1 ∧ s.vm.findClass M.1.cls = some m.cls ∧ meth.locks = false ∧ meth.name = M.1.name ∧ (∀ w ∈ tb, w.before (ts as).toArray s = true) ∧ Kw E s ∧
  X = fun cs ss pc st lo S G => ∀ (H : Heap) (locs : List Loc) (ls : Array Slot), rep E S G H → s.heap.size ≤ H.size → (∀ q ∈ locs, E.2.2.2.1 ≤ q.base) → lv_has ls M.2.2.1 (tl lo) →
    W p E.1 e (rm_ d mc ms) s m (ts as).toArray below meth c H locs cs ss (MQ below (Qq E Y) (ts as).toArray s mc ms (fun q => E.2.2.2.1 ≤ q)) (F0 m pc ls (ts st))
/-- a contract out of a run -/
theorem calls_of {E : En} {M : Mk} {as : List Vl} {S : Sg} {G : Gh} {d mc ms : Nat} {Y : Option Vl → Sg → Gh → Prop} (lo : Lo) (hy : plainName M.1.cls = true) (hl : lv_args 0 (ts as) = tl lo) (hn : (lg_sl (ts as)).length ≤ M.2.2.1)
    (h : ∀ X, Cl E M as d mc ms Y X → X 0 0 0 [] lo S G) : Calls E M as S G d mc ms Y := by
  obtain ⟨y, cc, nL, ret⟩ := M
  refine Met.ofW (cc := cc) (maxL := nL) (ret := ret) hy rfl ?_
  intro p e s m args below meth c s₁ B hml hv
  obtain ⟨rfl, hK, hR⟩ := hv
  have hts := atoms_spec (ws := wsy (y, cc, nL, ret)) B.pre
  have hh := lv_entry (ts as) hn
  rw [lg_entry_eq]
  rw [hl] at hh
  exact h _ ⟨p, e, s, m, below, meth, c, B.exec, B.bytes, B.returns, hml, findClass_of_methodNamed B.named, B.notSynchronized, (name_of_methodNamed B.named B.method).1, fun w hw => hts w (List.mem_cons_of_mem _ hw), hK, rfl⟩ s.heap [] _ hR (Nat.le_refl _) (fun _ h => by cases h) hh
/-- weaker ends -/
theorem calls_mono {E : En} {M : Mk} {as : List Vl} {S : Sg} {G : Gh} {d mc ms : Nat} {Y Z : Option Vl → Sg → Gh → Prop} (h : Calls E M as S G d mc ms Y) (hz : ∀ r S' G', Y r S' G' → Z r S' G') : Calls E M as S G d mc ms Z := by
  intro p e ha hc hk s m args below hf hfit hP hT
  obtain ⟨t, o, h1, h2, h3, ⟨r, S', G', q1, q2, q3⟩, h5⟩ := h p e ha hc hk s m args below hf hfit hP hT
  exact ⟨t, o, h1, h2, h3, ⟨r, S', G', q1, hz _ _ _ q2, q3⟩, h5⟩
