/-! straight stretches: what needs no fact, done many at a time -/
def setl (lo : Lo) (i : Nat) (v : Vl) : Lo := lo.filter (fun q => Nat.blt q.1 i && !(q.1 + 1 == i && q.2.1 == 1)) ++ (i, v) :: lo.filter (fun q => Nat.blt i q.1 && !(v.1 == 1 && q.1 == i + 1))
def lei (a b : Int) : Bool := decide (a ≤ b)
abbrev Es : Type := Nat × List Vl × Lo
def exL (lo : Lo) (i : Nat) (tag : Nat → Bool) (pc : Nat) (st : List Vl) : Option Es := match lo.lookup i with
  | some v => if tag v.1 then some (pc, v :: st, lo) else none
  | none => none
def exS (lo : Lo) (i nL : Nat) (tag : Nat → Bool) (pc : Nat) (st : List Vl) : Option Es := match st with
  | v :: st => if tag v.1 && Nat.blt (if v.1 == 1 then i + 1 else i) nL then some (pc, st, setl lo i v) else none
  | [] => none
def t0 (n : Nat) : Bool := n == 0
def t1 (n : Nat) : Bool := n == 1
def t2 (n : Nat) : Bool := n == 2
def tn1 (n : Nat) : Bool := !(n == 1)
def ex1 (nL : Nat) (i : Instr) (n : Nat) (s : Es) : Option Es := match i with
  | .iconst k => if n == 1 then some (s.1 + 1, (0, k) :: s.2.1, s.2.2) else none
  | .bipush k => if n == 2 && lei (-128) k && lei k 127 then some (s.1 + 2, (0, k) :: s.2.1, s.2.2) else none
  | .sipush k => if n == 3 && lei (-32768) k && lei k 32767 then some (s.1 + 3, (0, k) :: s.2.1, s.2.2) else none
  | .lconst k => if n == 1 then some (s.1 + 1, (1, (k.val : Int)) :: s.2.1, s.2.2) else none
  | .aconst_null => if n == 1 then some (s.1 + 1, (2, -1) :: s.2.1, s.2.2) else none
  | .iload k => if n == 2 then exL s.2.2 k t0 (s.1 + 2) s.2.1 else none
  | .iload_n k => if n == 1 then exL s.2.2 k.val t0 (s.1 + 1) s.2.1 else none
  | .lload k => if n == 2 then exL s.2.2 k t1 (s.1 + 2) s.2.1 else none
  | .lload_n k => if n == 1 then exL s.2.2 k.val t1 (s.1 + 1) s.2.1 else none
  | .aload k => if n == 2 then exL s.2.2 k t2 (s.1 + 2) s.2.1 else none
  | .aload_n k => if n == 1 then exL s.2.2 k.val t2 (s.1 + 1) s.2.1 else none
  | .istore k => if n == 2 then exS s.2.2 k nL t0 (s.1 + 2) s.2.1 else none
  | .istore_n k => if n == 1 then exS s.2.2 k.val nL t0 (s.1 + 1) s.2.1 else none
  | .lstore k => if n == 2 then exS s.2.2 k nL t1 (s.1 + 2) s.2.1 else none
  | .lstore_n k => if n == 1 then exS s.2.2 k.val nL t1 (s.1 + 1) s.2.1 else none
  | .astore k => if n == 2 then exS s.2.2 k nL t2 (s.1 + 2) s.2.1 else none
  | .astore_n k => if n == 1 then exS s.2.2 k.val nL t2 (s.1 + 1) s.2.1 else none
  | .iinc k z => if n == 3 && Nat.blt k nL then (match s.2.2.lookup k with
    | some (0, x) => some (s.1 + 3, s.2.1, setl s.2.2 k (0, x + z))
    | _ => none) else none
  | .goto off => if n == 3 && lei 0 (s.1 + off) then some ((s.1 + off).toNat, s.2.1, s.2.2) else none
  | .iadd => if n == 1 then (match s.2.1 with
    | (0, y) :: (0, x) :: st => some (s.1 + 1, (0, x + y) :: st, s.2.2)
    | _ => none) else none
  | .isub => if n == 1 then (match s.2.1 with
    | (0, y) :: (0, x) :: st => some (s.1 + 1, (0, x - y) :: st, s.2.2)
    | _ => none) else none
  | .imul => if n == 1 then (match s.2.1 with
    | (0, y) :: (0, x) :: st => some (s.1 + 1, (0, x * y) :: st, s.2.2)
    | _ => none) else none
  | .ineg => if n == 1 then (match s.2.1 with
    | (0, x) :: st => some (s.1 + 1, (0, -x) :: st, s.2.2)
    | _ => none) else none
  | .ladd => if n == 1 then (match s.2.1 with
    | (1, y) :: (1, x) :: st => some (s.1 + 1, (1, x + y) :: st, s.2.2)
    | _ => none) else none
  | .lsub => if n == 1 then (match s.2.1 with
    | (1, y) :: (1, x) :: st => some (s.1 + 1, (1, x - y) :: st, s.2.2)
    | _ => none) else none
  | .lmul => if n == 1 then (match s.2.1 with
    | (1, y) :: (1, x) :: st => some (s.1 + 1, (1, x * y) :: st, s.2.2)
    | _ => none) else none
  | .lneg => if n == 1 then (match s.2.1 with
    | (1, x) :: st => some (s.1 + 1, (1, -x) :: st, s.2.2)
    | _ => none) else none
  | .l2i => if n == 1 then (match s.2.1 with
    | (1, x) :: st => some (s.1 + 1, (0, x) :: st, s.2.2)
    | _ => none) else none
  | .dup => if n == 1 then (match s.2.1 with
    | v :: st => if tn1 v.1 then some (s.1 + 1, v :: v :: st, s.2.2) else none
    | _ => none) else none
  | .pop => if n == 1 then (match s.2.1 with
    | v :: st => if tn1 v.1 then some (s.1 + 1, st, s.2.2) else none
    | _ => none) else none
  | .pop2 => if n == 1 then (match s.2.1 with
    | v :: st => if t1 v.1 then some (s.1 + 1, st, s.2.2) else none
    | _ => none) else none
  | .dup_x1 => if n == 1 then (match s.2.1 with
    | v :: w :: st => if tn1 v.1 && tn1 w.1 then some (s.1 + 1, v :: w :: v :: st, s.2.2) else none
    | _ => none) else none
  | .dup2 => if n == 1 then (match s.2.1 with
    | v :: st => if t1 v.1 then some (s.1 + 1, v :: v :: st, s.2.2) else (match st with
      | w :: st => if tn1 v.1 && tn1 w.1 then some (s.1 + 1, v :: w :: v :: w :: st, s.2.2) else none
      | _ => none)
    | _ => none) else none
  | _ => none

theorem lk_mem {lo : Lo} {i : Nat} {v : Vl} (h : lo.lookup i = some v) : (i, v) ∈ lo := by
  induction lo with
  | nil => simp at h
  | cons q r ih =>
    obtain ⟨k, w⟩ := q
    rw [List.lookup_cons] at h
    by_cases e : i = k
    · subst e
      simp at h
      subst h
      exact List.mem_cons_self
    · have e' : (i == k) = false := by simp [e]
      rw [e'] at h
      exact List.mem_cons_of_mem _ (ih h)
theorem lk_at {ls : Array Slot} {nL : Nat} {lo : Lo} {i : Nat} {v : Vl} (hl : lv_has ls nL (tl lo)) (h : lo.lookup i = some v) : ls[i]? = some (.val (tv v)) :=
  hl.2.2 (i, tv v) (List.mem_map.mpr ⟨(i, v), lk_mem h, rfl⟩)
theorem tv0 (x : Int) : tv (0, x) = .int (Int32.ofInt x) := rfl
theorem tv1 (x : Int) : tv (1, x) = .long (Int64.ofInt x) := rfl
theorem tv2 {x : Int} (h : 0 ≤ x) : tv (2, x) = .ref x.toNat := by
  show (if x < 0 then Value.null else .ref x.toNat) = _
  rw [if_neg (by omega)]
theorem tv2n {x : Int} (h : x < 0) : tv (2, x) = .null := by
  show (if x < 0 then Value.null else .ref x.toNat) = _
  rw [if_pos h]
theorem tv2_or (x : Int) : tv (2, x) = .null ∨ ∃ a : Nat, tv (2, x) = .ref a := by
  by_cases h : x < 0
  · exact Or.inl (tv2n h)
  · exact Or.inr ⟨_, tv2 (by omega)⟩
theorem tv_cat1 {v : Vl} (h : tn1 v.1 = true) : (tv v).category = 1 := by
  obtain ⟨t, x⟩ := v
  match t, h with
  | 0, _ => rfl
  | 1, h => simp [tn1] at h
  | t + 2, _ =>
    show (if x < 0 then Value.null else .ref x.toNat).category = 1
    split <;> rfl
theorem tv_cat2 {v : Vl} (h : t1 v.1 = true) : (tv v).category = 2 := by
  obtain ⟨t, x⟩ := v
  have e : t = 1 := by simpa [t1] using h
  subst e
  rfl
theorem tv_catb (v : Vl) : ((tv v).category == 2) = (v.1 == 1) := by
  by_cases h : v.1 = 1
  · rw [tv_cat2 (by simp [t1, h])]; simp [h]
  · rw [tv_cat1 (by simp [tn1, h])]; simp [h]
theorem lv_less {ls : Array Slot} {nL : Nat} {l l' : List (Nat × Value)} (h : lv_has ls nL l) (hl : ∀ q ∈ l', q ∈ l) : lv_has ls nL l' := ⟨h.1, h.2.1, fun q hq => h.2.2 q (hl q hq)⟩
theorem setl_in1 {lo : Lo} {i : Nat} {v : Vl} : ∀ q ∈ tl (setl lo i v), q ∈ (i, tv v) :: (tl lo).filter (fun q => !(q.1 == i) && !(q.1 + 1 == i && q.2.category == 2)) := by
  intro q hq
  obtain ⟨⟨k, w⟩, hm, rfl⟩ := List.mem_map.mp hq
  rcases List.mem_append.mp hm with h | h
  · obtain ⟨h1, h2⟩ := List.mem_filter.mp h
    refine List.mem_cons_of_mem _ (List.mem_filter.mpr ⟨List.mem_map.mpr ⟨_, h1, rfl⟩, ?_⟩)
    simp only [Bool.and_eq_true, Nat.blt_eq] at h2
    have e : (k == i) = false := by simp; omega
    simp only [tv_catb, e, Bool.not_false, Bool.true_and]
    exact h2.2
  · rcases List.mem_cons.mp h with h | h
    · cases h; exact List.mem_cons_self
    · obtain ⟨h1, h2⟩ := List.mem_filter.mp h
      refine List.mem_cons_of_mem _ (List.mem_filter.mpr ⟨List.mem_map.mpr ⟨_, h1, rfl⟩, ?_⟩)
      simp only [Bool.and_eq_true, Nat.blt_eq] at h2
      have e : (k == i) = false := by simp; omega
      have e2 : (k + 1 == i) = false := by simp; omega
      simp [e, e2]
theorem setl_in2 {lo : Lo} {i : Nat} {v : Vl} (hv : t1 v.1 = true) : ∀ q ∈ tl (setl lo i v), q ∈ (i, tv v) :: (tl lo).filter (fun q => !(q.1 == i) && (!(q.1 == i + 1) && !(q.1 + 1 == i && q.2.category == 2))) := by
  intro q hq
  have hv : (v.1 == 1) = true := hv
  obtain ⟨⟨k, w⟩, hm, rfl⟩ := List.mem_map.mp hq
  rcases List.mem_append.mp hm with h | h
  · obtain ⟨h1, h2⟩ := List.mem_filter.mp h
    refine List.mem_cons_of_mem _ (List.mem_filter.mpr ⟨List.mem_map.mpr ⟨_, h1, rfl⟩, ?_⟩)
    simp only [Bool.and_eq_true, Nat.blt_eq] at h2
    have e : (k == i) = false := by simp; omega
    have e1 : (k == i + 1) = false := by simp; omega
    simp only [tv_catb, e, e1, Bool.not_false, Bool.true_and]
    exact h2.2
  · rcases List.mem_cons.mp h with h | h
    · cases h; exact List.mem_cons_self
    · obtain ⟨h1, h2⟩ := List.mem_filter.mp h
      refine List.mem_cons_of_mem _ (List.mem_filter.mpr ⟨List.mem_map.mpr ⟨_, h1, rfl⟩, ?_⟩)
      simp only [Bool.and_eq_true, Nat.blt_eq, hv, Bool.true_and] at h2
      have e : (k == i) = false := by simp; omega
      have e2 : (k + 1 == i) = false := by simp; omega
      simp only [e, e2, Bool.not_false, Bool.false_and, Bool.true_and, Bool.and_true]
      exact h2.2
theorem i8c {k : Int} (h1 : -128 ≤ k) (h2 : k ≤ 127) : (Int8.ofInt k).toInt32 = Int32.ofInt k := by
  apply Int32.toInt_inj.mp
  rw [Int8.toInt_toInt32, Int8.toInt_ofInt_of_le (by omega) (by omega), Int32.toInt_ofInt_of_le (by omega) (by omega)]
theorem i16c {k : Int} (h1 : -32768 ≤ k) (h2 : k ≤ 32767) : (Int16.ofInt k).toInt32 = Int32.ofInt k := by
  apply Int32.toInt_inj.mp
  rw [Int16.toInt_toInt32, Int16.toInt_ofInt_of_le (by omega) (by omega), Int32.toInt_ofInt_of_le (by omega) (by omega)]
theorem l2ic (x : Int) : (Int64.ofInt x).toInt32 = Int32.ofInt x := by
  apply Int32.toInt_inj.mp
  simp [Int32.toInt_ofInt, Int64.toInt_ofInt]
