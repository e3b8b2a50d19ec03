section EXOK
variable {E : En} {M : Mk} {as : List Vl} {d mc ms : Nat} {Y : Option Vl → Sg → Gh → Prop} {X : Xp} {cs ss : Nat} {S : Sg} {G : Gh}
theorem exL_ok {lo : Lo} {i pc : Nat} {tag : Nat → Bool} {st : List Vl} {s' : Es} (h : exL lo i tag pc st = some s') : ∃ v, lo.lookup i = some v ∧ tag v.1 = true ∧ s' = (pc, v :: st, lo) := by
  unfold exL at h
  split at h
  · rename_i v hv
    split at h
    · rename_i ht
      cases h
      exact ⟨v, hv, ht, rfl⟩
    · cases h
  · cases h
theorem exS_ok {lo : Lo} {i nL pc : Nat} {tag : Nat → Bool} {st : List Vl} {s' : Es} (h : exS lo i nL tag pc st = some s') : ∃ v r, st = v :: r ∧ tag v.1 = true ∧ (if v.1 == 1 then i + 1 else i) < nL ∧ s' = (pc, r, setl lo i v) := by
  match st, h with
  | v :: r, h =>
    have h : (if (tag v.1 && Nat.blt (if v.1 == 1 then i + 1 else i) nL) = true then some (pc, r, setl lo i v) else none) = some s' := h
    by_cases ht : (tag v.1 && Nat.blt (if v.1 == 1 then i + 1 else i) nL) = true
    · rw [if_pos ht] at h
      rw [Bool.and_eq_true, Nat.blt_eq] at ht
      cases h
      exact ⟨v, r, rfl, ht.1, ht.2, rfl⟩
    · rw [if_neg ht] at h
      cases h
theorem tag0 {v : Vl} (h : t0 v.1 = true) : ∃ x, v = (0, x) := by
  obtain ⟨a, b⟩ := v
  have e : a = 0 := by simpa [t0] using h
  subst e
  exact ⟨b, rfl⟩
theorem tag1 {v : Vl} (h : t1 v.1 = true) : ∃ x, v = (1, x) := by
  obtain ⟨a, b⟩ := v
  have e : a = 1 := by simpa [t1] using h
  subst e
  exact ⟨b, rfl⟩
theorem tag2 {v : Vl} (h : t2 v.1 = true) : ∃ x, v = (2, x) := by
  obtain ⟨a, b⟩ := v
  have e : a = 2 := by simpa [t2] using h
  subst e
  exact ⟨b, rfl⟩
theorem lk_k {lo : Lo} {i : Nat} {v : Vl} (h : lo.lookup i = some v) : ∃ k : Nat, (tl lo)[k]? = some (i, tv v) := List.getElem?_of_mem (List.mem_map.mpr ⟨(i, v), lk_mem h, rfl⟩)
set_option maxHeartbeats 4000000 in
theorem ex1_ok (hX : Cl E M as d mc ms Y X) {i : Instr} {n : Nat} {s s' : Es} (hd : decode M.2.1 s.1 = .ok (i, n)) (h : ex1 M.2.2.1 i n s = some s') (k : X cs ss s'.1 s'.2.1 s'.2.2 S G) : X cs ss s.1 s.2.1 s.2.2 S G := by
  obtain ⟨pc, st, lo⟩ := s
  obtain ⟨p, e, z, m, below, meth, c, hx, hb, hr, hml, hown, hlk, hnm, hts, hK, rfl⟩ := hX
  intro H locs ls hR hz hL hl
  have k := fun ls' hl' => k H locs ls' hR hz hL hl'
  cases i with
  | iconst q =>
    simp only [ex1] at h
    split at h
    · rename_i hn
      have hn : n = 1 := by simpa using hn
      subst hn; cases h
      exact lv_iconst hx hb hd rfl (k ls hl)
    · cases h
  | bipush q =>
    simp only [ex1] at h
    split at h
    · rename_i hn
      simp only [Bool.and_eq_true, lei, decide_eq_true_eq, beq_iff_eq] at hn
      obtain ⟨⟨hn, h1⟩, h2⟩ := hn
      subst hn; cases h
      exact lv_bipush hx hb hd (i8c h1 h2) (k ls hl)
    · cases h
  | sipush q =>
    simp only [ex1] at h
    split at h
    · rename_i hn
      simp only [Bool.and_eq_true, lei, decide_eq_true_eq, beq_iff_eq] at hn
      obtain ⟨⟨hn, h1⟩, h2⟩ := hn
      subst hn; cases h
      exact lv_sipush hx hb hd (i16c h1 h2) (k ls hl)
    · cases h
  | lconst q =>
    simp only [ex1] at h
    split at h
    · rename_i hn
      have hn : n = 1 := by simpa using hn
      subst hn; cases h
      exact lv_lconst hx hb hd (by rfl) (k ls hl)
    · cases h
  | aconst_null =>
    simp only [ex1] at h
    split at h
    · rename_i hn
      have hn : n = 1 := by simpa using hn
      subst hn; cases h
      exact lv_null hx hb hd (k ls hl)
    · cases h
  | iload q =>
    simp only [ex1] at h
    split at h
    · rename_i hn
      have hn : n = 2 := by simpa using hn
      subst hn
      obtain ⟨v, hv, ht, rfl⟩ := exL_ok h
      obtain ⟨x, rfl⟩ := tag0 ht
      exact lv_iload hx hb hd (lk_at hl hv) (k ls hl)
    · cases h
  | iload_n q =>
    simp only [ex1] at h
    split at h
    · rename_i hn
      have hn : n = 1 := by simpa using hn
      subst hn
      obtain ⟨v, hv, ht, rfl⟩ := exL_ok h
      obtain ⟨x, rfl⟩ := tag0 ht
      exact lv_iload_n hx hb hd rfl (lk_at hl hv) (k ls hl)
    · cases h
  | lload q =>
    simp only [ex1] at h
    split at h
    · rename_i hn
      have hn : n = 2 := by simpa using hn
      subst hn
      obtain ⟨v, hv, ht, rfl⟩ := exL_ok h
      obtain ⟨x, rfl⟩ := tag1 ht
      exact lv_lload hx hb hd (lk_at hl hv) (k ls hl)
    · cases h
  | lload_n q =>
    simp only [ex1] at h
    split at h
    · rename_i hn
      have hn : n = 1 := by simpa using hn
      subst hn
      obtain ⟨v, hv, ht, rfl⟩ := exL_ok h
      obtain ⟨x, rfl⟩ := tag1 ht
      exact lv_lload_n hx hb hd rfl (lk_at hl hv) (k ls hl)
    · cases h
  | aload q =>
    simp only [ex1] at h
    split at h
    · rename_i hn
      have hn : n = 2 := by simpa using hn
      subst hn
      obtain ⟨v, hv, ht, rfl⟩ := exL_ok h
      obtain ⟨x, rfl⟩ := tag2 ht
      have hv := lk_at hl hv
      have k := k ls hl
      simp only [ts, List.map_cons] at k ⊢
      rcases tv2_or x with e0 | ⟨a, e0⟩ <;> rw [e0] at hv k
      · exact lv_aloadN hx hb hd hv k
      · exact lv_aload hx hb hd hv k
    · cases h
  | aload_n q =>
    simp only [ex1] at h
    split at h
    · rename_i hn
      have hn : n = 1 := by simpa using hn
      subst hn
      obtain ⟨v, hv, ht, rfl⟩ := exL_ok h
      obtain ⟨x, rfl⟩ := tag2 ht
      have hv := lk_at hl hv
      have k := k ls hl
      simp only [ts, List.map_cons] at k ⊢
      rcases tv2_or x with e0 | ⟨a, e0⟩ <;> rw [e0] at hv k
      · exact lv_aload_nN hx hb hd rfl hv k
      · exact lv_aload_n hx hb hd rfl hv k
    · cases h
  | istore q =>
    simp only [ex1] at h
    split at h
    · rename_i hn
      have hn : n = 2 := by simpa using hn
      subst hn
      obtain ⟨v, r, rfl, ht, hi, rfl⟩ := exS_ok h
      obtain ⟨x, rfl⟩ := tag0 ht
      exact lv_istore hx hb hd hl hi rfl (fun ls' h' => k ls' (lv_less h' setl_in1))
    · cases h
  | istore_n q =>
    simp only [ex1] at h
    split at h
    · rename_i hn
      have hn : n = 1 := by simpa using hn
      subst hn
      obtain ⟨v, r, rfl, ht, hi, rfl⟩ := exS_ok h
      obtain ⟨x, rfl⟩ := tag0 ht
      exact lv_istore_n hx hb hd rfl hl hi rfl (fun ls' h' => k ls' (lv_less h' setl_in1))
    · cases h
  | lstore q =>
    simp only [ex1] at h
    split at h
    · rename_i hn
      have hn : n = 2 := by simpa using hn
      subst hn
      obtain ⟨v, r, rfl, ht, hi, rfl⟩ := exS_ok h
      obtain ⟨x, rfl⟩ := tag1 ht
      exact lv_lstore hx hb hd hl hi rfl (fun ls' h' => k ls' (lv_less h' (setl_in2 rfl)))
    · cases h
  | lstore_n q =>
    simp only [ex1] at h
    split at h
    · rename_i hn
      have hn : n = 1 := by simpa using hn
      subst hn
      obtain ⟨v, r, rfl, ht, hi, rfl⟩ := exS_ok h
      obtain ⟨x, rfl⟩ := tag1 ht
      exact lv_lstore_n hx hb hd rfl hl hi rfl (fun ls' h' => k ls' (lv_less h' (setl_in2 rfl)))
    · cases h
  | astore q =>
    simp only [ex1] at h
    split at h
    · rename_i hn
      have hn : n = 2 := by simpa using hn
      subst hn
      obtain ⟨v, r, rfl, ht, hi, rfl⟩ := exS_ok h
      obtain ⟨x, rfl⟩ := tag2 ht
      simp only [ts, List.map_cons] at k ⊢
      rcases tv2_or x with e0 | ⟨a, e0⟩ <;> rw [e0]
      · exact lv_astoreN hx hb hd hl hi rfl (fun ls' h' => k ls' (lv_less h' (by have := @setl_in1 lo q (2, x); rw [e0] at this; exact this)))
      · exact lv_astore hx hb hd hl hi rfl (fun ls' h' => k ls' (lv_less h' (by have := @setl_in1 lo q (2, x); rw [e0] at this; exact this)))
    · cases h
  | astore_n q =>
    simp only [ex1] at h
    split at h
    · rename_i hn
      have hn : n = 1 := by simpa using hn
      subst hn
      obtain ⟨v, r, rfl, ht, hi, rfl⟩ := exS_ok h
      obtain ⟨x, rfl⟩ := tag2 ht
      simp only [ts, List.map_cons] at k ⊢
      rcases tv2_or x with e0 | ⟨a, e0⟩ <;> rw [e0]
      · exact lv_astore_nN hx hb hd rfl hl hi rfl (fun ls' h' => k ls' (lv_less h' (by have := @setl_in1 lo q (2, x); rw [e0] at this; exact this)))
      · exact lv_astore_n hx hb hd rfl hl hi rfl (fun ls' h' => k ls' (lv_less h' (by have := @setl_in1 lo q (2, x); rw [e0] at this; exact this)))
    · cases h
  | iinc q w =>
    simp only [ex1] at h
    split at h
    · rename_i hn
      simp only [Bool.and_eq_true, Nat.blt_eq, beq_iff_eq] at hn
      obtain ⟨hn, hi⟩ := hn
      subst hn
      split at h
      · rename_i x hv
        cases h
        obtain ⟨k0, hk0⟩ := lk_k hv
        exact lv_iinc hx hb hd hl hk0 (by rw [← Int32.ofInt_add]) hi rfl (fun ls' h' => k ls' (lv_less h' (@setl_in1 lo q (0, x + w))))
      · cases h
    · cases h
  | goto off =>
    simp only [ex1] at h
    split at h
    · rename_i hn
      simp only [Bool.and_eq_true, lei, decide_eq_true_eq, beq_iff_eq] at hn
      obtain ⟨hn, h1⟩ := hn
      subst hn; cases h
      exact lv_goto hx hb hd (by show (pc : Int) + off = _; dsimp only at h1 ⊢; omega) (k ls hl)
    · cases h
  | iadd =>
    simp only [ex1] at h
    split at h
    · rename_i hn
      have hn : n = 1 := by simpa using hn
      subst hn
      split at h
      · cases h
        exact lv_iadd hx hb hd (by have k := k ls hl; simp only [ts, List.map_cons, tv0, Int32.ofInt_add] at k; exact k)
      · cases h
    · cases h
  | isub =>
    simp only [ex1] at h
    split at h
    · rename_i hn
      have hn : n = 1 := by simpa using hn
      subst hn
      split at h
      · cases h
        exact lv_isub hx hb hd (by have k := k ls hl; simp only [ts, List.map_cons, tv0, Int32.ofInt_sub] at k; exact k)
      · cases h
    · cases h
  | imul =>
    simp only [ex1] at h
    split at h
    · rename_i hn
      have hn : n = 1 := by simpa using hn
      subst hn
      split at h
      · cases h
        exact lv_imul hx hb hd (by have k := k ls hl; simp only [ts, List.map_cons, tv0, Int32.ofInt_mul] at k; exact k)
      · cases h
    · cases h
  | ineg =>
    simp only [ex1] at h
    split at h
    · rename_i hn
      have hn : n = 1 := by simpa using hn
      subst hn
      split at h
      · cases h
        exact lv_ineg hx hb hd (by have k := k ls hl; simp only [ts, List.map_cons, tv0, Int32.ofInt_neg] at k; exact k)
      · cases h
    · cases h
  | ladd =>
    simp only [ex1] at h
    split at h
    · rename_i hn
      have hn : n = 1 := by simpa using hn
      subst hn
      split at h
      · cases h
        exact lv_ladd hx hb hd (by have k := k ls hl; simp only [ts, List.map_cons, tv1, Int64.ofInt_add] at k; exact k)
      · cases h
    · cases h
  | lsub =>
    simp only [ex1] at h
    split at h
    · rename_i hn
      have hn : n = 1 := by simpa using hn
      subst hn
      split at h
      · cases h
        exact lv_lsub hx hb hd (by have k := k ls hl; simp only [ts, List.map_cons, tv1, Int64.ofInt_sub] at k; exact k)
      · cases h
    · cases h
  | lmul =>
    simp only [ex1] at h
    split at h
    · rename_i hn
      have hn : n = 1 := by simpa using hn
      subst hn
      split at h
      · cases h
        exact lv_lmul hx hb hd (by have k := k ls hl; simp only [ts, List.map_cons, tv1, Int64.ofInt_mul] at k; exact k)
      · cases h
    · cases h
  | lneg =>
    simp only [ex1] at h
    split at h
    · rename_i hn
      have hn : n = 1 := by simpa using hn
      subst hn
      split at h
      · cases h
        exact lv_lneg hx hb hd (by have k := k ls hl; simp only [ts, List.map_cons, tv1, Int64.ofInt_neg] at k; exact k)
      · cases h
    · cases h
  | l2i =>
    simp only [ex1] at h
    split at h
    · rename_i hn
      have hn : n = 1 := by simpa using hn
      subst hn
      split at h
      · cases h
        exact lv_l2i hx hb hd (l2ic _) (k ls hl)
      · cases h
    · cases h
  | dup =>
    simp only [ex1] at h
    split at h
    · rename_i hn
      have hn : n = 1 := by simpa using hn
      subst hn
      split at h
      · split at h
        · rename_i ht
          cases h
          exact lv_dup hx hb hd (tv_cat1 ht) (k ls hl)
        · cases h
      · cases h
    · cases h
  | pop =>
    simp only [ex1] at h
    split at h
    · rename_i hn
      have hn : n = 1 := by simpa using hn
      subst hn
      split at h
      · split at h
        · rename_i ht
          cases h
          exact lv_pop hx hb hd (tv_cat1 ht) (k ls hl)
        · cases h
      · cases h
    · cases h
  | pop2 =>
    simp only [ex1] at h
    split at h
    · rename_i hn
      have hn : n = 1 := by simpa using hn
      subst hn
      split at h
      · split at h
        · rename_i ht
          cases h
          exact lv_pop2_2 hx hb hd (tv_cat2 ht) (k ls hl)
        · cases h
      · cases h
    · cases h
  | dup_x1 =>
    simp only [ex1] at h
    split at h
    · rename_i hn
      have hn : n = 1 := by simpa using hn
      subst hn
      split at h
      · split at h
        · rename_i ht
          simp only [Bool.and_eq_true] at ht
          cases h
          exact lv_dup_x1 hx hb hd (tv_cat1 ht.1) (tv_cat1 ht.2) (k ls hl)
        · cases h
      · cases h
    · cases h
  | dup2 =>
    simp only [ex1] at h
    split at h
    · rename_i hn
      have hn : n = 1 := by simpa using hn
      subst hn
      split at h
      · split at h
        · rename_i ht
          cases h
          exact lv_dup2_2 hx hb hd (tv_cat2 ht) (k ls hl)
        · split at h
          · split at h
            · rename_i ht
              simp only [Bool.and_eq_true] at ht
              cases h
              exact lv_dup2_11 hx hb hd (tv_cat1 ht.1) (tv_cat1 ht.2) (k ls hl)
            · cases h
          · cases h
      · cases h
    · cases h
  | _ => simp [ex1] at h
def fd (P : Cod) (pc : Nat) : Option (Instr × Nat) := P.lookup pc
theorem lk_memG {α : Type} {l : List (Nat × α)} {i : Nat} {v : α} (h : l.lookup i = some v) : (i, v) ∈ l := by
  induction l with
  | nil => simp at h
  | cons q r ih =>
    obtain ⟨k, w⟩ := q
    rw [List.lookup_cons] at h
    by_cases e : i = k
    · subst e
      simp at h
      subst h
      exact List.mem_cons_self
    · have e' : (i == k) = false := by simp [e]
      rw [e'] at h
      exact List.mem_cons_of_mem _ (ih h)
theorem fd_dec {cc : ByteArray} {P : Cod} {pc : Nat} {i : Instr × Nat} (hP : Dec cc P) (h : fd P pc = some i) : decode cc pc = .ok i := hP (pc, i) (lk_memG h)
def exn (P : Cod) (nL : Nat) : Nat → Es → Option Es
  | 0, s => some s
  | n + 1, s => match fd P s.1 with
    | some (i, k) => match ex1 nL i k s with
      | some s' => exn P nL n s'
      | none => none
    | none => none
theorem r_ex (hX : Cl E M as d mc ms Y X) {P : Cod} (hP : Dec M.2.1 P) (n : Nat) {pc pc' : Nat} {st st' : List Vl} {lo lo' : Lo} (h : exn P M.2.2.1 n (pc, st, lo) = some (pc', st', lo')) (k : X cs ss pc' st' lo' S G) : X cs ss pc st lo S G := by
  induction n generalizing pc st lo with
  | zero => cases h; exact k
  | succ n ih =>
    unfold exn at h
    split at h
    · rename_i i q hf
      split at h
      · rename_i s' hs
        exact ex1_ok hX (s := (pc, st, lo)) (fd_dec hP hf) hs (ih h)
      · cases h
    · cases h
end EXOK
