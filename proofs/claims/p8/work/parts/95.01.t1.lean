/-! THE TEXT: what a token is, and what a reader does with one, in whole numbers alone -/
abbrev Tp : Type := Int → Int
def cB (x : Int) : Bool := decide (x = 32 ∨ x = 10)
def cL (x : Int) : Bool := decide (97 ≤ x ∧ x ≤ 122)
def cD (x : Int) : Bool := decide (48 ≤ x ∧ x ≤ 57)
def cS (x : Int) : Bool := decide (x = 59 ∨ x = 123 ∨ x = 125 ∨ x = 60 ∨ x = 62)
theorem cB_iff {x : Int} : cB x = true ↔ (x = 32 ∨ x = 10) := by simp [cB]
theorem cL_iff {x : Int} : cL x = true ↔ (97 ≤ x ∧ x ≤ 122) := by simp [cL]
theorem cD_iff {x : Int} : cD x = true ↔ (48 ≤ x ∧ x ≤ 57) := by simp [cD]
theorem cS_iff {x : Int} : cS x = true ↔ (x = 59 ∨ x = 123 ∨ x = 125 ∨ x = 60 ∨ x = 62) := by simp [cS]
def scF (P : Int → Bool) (T : Tp) (n : Int) : Nat → Int → Int
  | 0, p => p
  | k + 1, p => if p < n ∧ P (T p) = true then scF P T n k (p + 1) else p
/-- how far a stretch of such signs goes from p on -/
def scn (P : Int → Bool) (T : Tp) (n p : Int) : Int := scF P T n (n - p).toNat p
section SCN
variable {P : Int → Bool} {T : Tp} {n p i : Int}
theorem scn_go (h : p < n) (h2 : P (T p) = true) : scn P T n p = scn P T n (p + 1) := by
  unfold scn
  obtain ⟨k, hk⟩ : ∃ k : Nat, (n - p).toNat = k + 1 := ⟨(n - p).toNat - 1, by omega⟩
  have hk2 : (n - (p + 1)).toNat = k := by omega
  rw [hk, hk2]
  exact if_pos ⟨h, h2⟩
theorem scn_end (h : ¬ (p < n ∧ P (T p) = true)) : scn P T n p = p := by
  unfold scn
  cases (n - p).toNat with
  | zero => rfl
  | succ k => exact if_neg h
theorem scF_ge (k : Nat) : ∀ p : Int, p ≤ scF P T n k p := by
  induction k with
  | zero => exact fun p => Int.le_refl p
  | succ k ih =>
    intro p
    show p ≤ (if p < n ∧ P (T p) = true then scF P T n k (p + 1) else p)
    split
    · have := ih (p + 1)
      omega
    · omega
theorem scn_ge (P : Int → Bool) (T : Tp) (n p : Int) : p ≤ scn P T n p := scF_ge _ p
theorem scF_le (k : Nat) : ∀ p : Int, p ≤ n → scF P T n k p ≤ n := by
  induction k with
  | zero => exact fun p h => h
  | succ k ih =>
    intro p h
    show (if p < n ∧ P (T p) = true then scF P T n k (p + 1) else p) ≤ n
    split
    · rename_i q
      exact ih (p + 1) (by first | decide | omega)
    · exact h
theorem scn_le (h : p ≤ n) : scn P T n p ≤ n := scF_le _ p h
theorem scF_in (k : Nat) : ∀ p i : Int, p ≤ i → i < scF P T n k p → P (T i) = true := by
  induction k with
  | zero =>
    intro p i h1 h2
    have h2 : i < p := h2
    omega
  | succ k ih =>
    intro p i h1 h2
    have h2 : i < (if p < n ∧ P (T p) = true then scF P T n k (p + 1) else p) := h2
    split at h2
    · rename_i q
      by_cases e : i = p
      · rw [e]
        exact q.2
      · exact ih (p + 1) i (by first | decide | omega) h2
    · omega
theorem scn_in (h1 : p ≤ i) (h2 : i < scn P T n p) : P (T i) = true := scF_in _ p i h1 h2
end SCN
def tkS (T : Tp) (n p : Int) : Int := scn cB T n p
def tkK (T : Tp) (n p : Int) : Int :=
  if n ≤ tkS T n p then 0
  else if cL (T (tkS T n p)) = true then 1
  else if cD (T (tkS T n p)) = true then (if 7 < scn cD T n (tkS T n p) - tkS T n p then 3 else 2)
  else if cS (T (tkS T n p)) = true then T (tkS T n p) else 3
def tkE (T : Tp) (n p : Int) : Int :=
  if n ≤ tkS T n p then tkS T n p
  else if cL (T (tkS T n p)) = true then scn cL T n (tkS T n p)
  else if cD (T (tkS T n p)) = true then scn cD T n (tkS T n p)
  else tkS T n p + 1
def dgF (T : Tp) (s : Int) : Nat → Int
  | 0 => 0
  | k + 1 => if k < 7 then dgF T s k * 10 + T (s + k) - 48 else dgF T s k
/-- the number that the first seven digits from s on to e spell -/
def dgv (T : Tp) (s e : Int) : Int := dgF T s (e - s).toNat
def tkV (T : Tp) (n p : Int) : Int := dgv T (tkS T n p) (tkE T n p)
section TOK
variable {T : Tp} {n p s e : Int}
theorem dv_zero : dgv T s s = 0 := by
  unfold dgv
  rw [Int.sub_self]
  rfl
theorem dv_lo (h : s ≤ e) (h7 : e - s < 7) : dgv T s (e + 1) = dgv T s e * 10 + T e - 48 := by
  unfold dgv
  obtain ⟨k, hk⟩ : ∃ k : Nat, e = s + k := ⟨(e - s).toNat, by omega⟩
  have h1 : (e + 1 - s).toNat = k + 1 := by omega
  have h2 : (e - s).toNat = k := by omega
  rw [h1, h2, hk]
  exact if_pos (by first | decide | omega)
theorem dv_hi (h : s ≤ e) (h7 : 7 ≤ e - s) : dgv T s (e + 1) = dgv T s e := by
  unfold dgv
  obtain ⟨k, hk⟩ : ∃ k : Nat, (e - s).toNat = k := ⟨_, rfl⟩
  have h1 : (e + 1 - s).toNat = k + 1 := by omega
  rw [h1, hk]
  exact if_neg (by first | decide | omega)
theorem dvF_bd (k : Nat) (hk : k ≤ 7) (h : ∀ i : Int, s ≤ i → i < s + k → cD (T i) = true) : 0 ≤ dgF T s k ∧ dgF T s k < 10 ^ k := by
  induction k with
  | zero => exact ⟨Int.le_refl 0, by show (0 : Int) < _; decide⟩
  | succ k ih =>
    obtain ⟨h1, h2⟩ := ih (by first | decide | omega) (fun i a b => h i a (by first | decide | omega))
    have h3 := cD_iff.mp (h (s + k) (by first | decide | omega) (by first | decide | omega))
    have e : dgF T s (k + 1) = dgF T s k * 10 + T (s + k) - 48 := if_pos (by first | decide | omega)
    rw [e, Int.pow_succ]
    omega
theorem dv_bd (h1 : s ≤ e) (h2 : e ≤ scn cD T n s) (h7 : e - s < 7) : 0 ≤ dgv T s e ∧ dgv T s e ≤ 999999 := by
  have hb := dvF_bd (T := T) (s := s) (e - s).toNat (by first | decide | omega) (fun i a b => scn_in (n := n) a (by first | decide | omega))
  unfold dgv
  refine ⟨hb.1, ?_⟩
  have hk : (e - s).toNat ≤ 6 := by omega
  have : (10 : Int) ^ (e - s).toNat ≤ 10 ^ 6 := by
    rcases (by omega : (e - s).toNat = 0 ∨ (e - s).toNat = 1 ∨ (e - s).toNat = 2 ∨ (e - s).toNat = 3 ∨ (e - s).toNat = 4 ∨ (e - s).toNat = 5 ∨ (e - s).toNat = 6) with h | h | h | h | h | h | h <;> rw [h] <;> decide
  have h6 : (10 : Int) ^ 6 = 1000000 := by decide
  omega
theorem tkS_le (h : p ≤ n) : tkS T n p ≤ n := scn_le h
theorem tkS_ge (T : Tp) (n p : Int) : p ≤ tkS T n p := scn_ge _ _ _ _
theorem tkE_ge (T : Tp) (n p : Int) : tkS T n p ≤ tkE T n p := by
  unfold tkE
  split
  · exact Int.le_refl _
  split
  · exact scn_ge _ _ _ _
  split
  · exact scn_ge _ _ _ _
  · omega
theorem tkE_le (h : p ≤ n) : tkE T n p ≤ n := by
  have := tkS_le (T := T) h
  unfold tkE
  split
  · exact this
  split
  · exact scn_le this
  split
  · exact scn_le this
  · omega
theorem tkK_zero : tkK T n p = 0 ↔ n ≤ tkS T n p := by
  unfold tkK
  constructor
  · intro h
    split at h
    · assumption
    split at h
    · cases h
    split at h
    · split at h <;> cases h
    split at h
    · rename_i q
      have := cS_iff.mp q
      omega
    · cases h
  · intro h
    exact if_pos h
/-- a token that is there goes on for one sign at least -/
theorem tkE_gt (h : tkK T n p ≠ 0) : tkS T n p < tkE T n p := by
  have h0 : ¬ n ≤ tkS T n p := fun q => h (tkK_zero.mpr q)
  unfold tkE
  rw [if_neg h0]
  split
  · rename_i q
    rw [scn_go (by first | decide | omega) q]
    have := scn_ge cL T n (tkS T n p + 1)
    omega
  split
  · rename_i q
    rw [scn_go (by first | decide | omega) q]
    have := scn_ge cD T n (tkS T n p + 1)
    omega
  · omega
theorem tkK_word (h : tkK T n p = 1) : tkS T n p < n ∧ cL (T (tkS T n p)) = true ∧ tkE T n p = scn cL T n (tkS T n p) := by
  unfold tkK at h
  split at h
  · cases h
  rename_i h0
  split at h
  · rename_i q
    refine ⟨by omega, q, ?_⟩
    unfold tkE
    rw [if_neg h0, if_pos q]
  split at h
  · split at h <;> cases h
  split at h
  · rename_i q
    have := cS_iff.mp q
    omega
  · cases h
theorem tkK_let (h : tkK T n p = 1) {i : Int} (h1 : tkS T n p ≤ i) (h2 : i < tkE T n p) : cL (T i) = true := by
  obtain ⟨-, -, e⟩ := tkK_word h
  rw [e] at h2
  exact scn_in h1 h2
end TOK
/-- from k on to m the same -/
def eqF (f g : Int → Int) (m : Int) : Nat → Int → Int
  | 0, _ => 1
  | j + 1, k => if k < m then (if f k = g k then eqF f g m j (k + 1) else 0) else 1
def eqv (f g : Int → Int) (m k : Int) : Int := eqF f g m (m - k).toNat k
section EQV
variable {f g : Int → Int} {m k : Int}
theorem eqv_go (h : k < m) (e : f k = g k) : eqv f g m k = eqv f g m (k + 1) := by
  unfold eqv
  obtain ⟨j, hj⟩ : ∃ j : Nat, (m - k).toNat = j + 1 := ⟨(m - k).toNat - 1, by omega⟩
  have hj2 : (m - (k + 1)).toNat = j := by omega
  rw [hj, hj2]
  show (if k < m then (if f k = g k then eqF f g m j (k + 1) else 0) else 1) = _
  rw [if_pos h, if_pos e]
theorem eqv_no (h : k < m) (e : f k ≠ g k) : eqv f g m k = 0 := by
  unfold eqv
  obtain ⟨j, hj⟩ : ∃ j : Nat, (m - k).toNat = j + 1 := ⟨(m - k).toNat - 1, by omega⟩
  rw [hj]
  show (if k < m then (if f k = g k then eqF f g m j (k + 1) else 0) else 1) = _
  rw [if_pos h, if_neg e]
theorem eqv_end (h : m ≤ k) : eqv f g m k = 1 := by
  unfold eqv
  rw [show (m - k).toNat = 0 by omega]
  rfl
theorem eqF_iff (j : Nat) : ∀ k : Int, m - k ≤ j → (eqF f g m j k = 1 ↔ ∀ i : Int, k ≤ i → i < m → f i = g i) := by
  induction j with
  | zero =>
    intro k h
    exact ⟨fun _ i a b => by omega, fun _ => rfl⟩
  | succ j ih =>
    intro k h
    show (if k < m then (if f k = g k then eqF f g m j (k + 1) else 0) else 1) = 1 ↔ _
    split
    · rename_i h1
      split
      · rename_i h2
        rw [ih (k + 1) (by first | decide | omega)]
        refine ⟨fun q i a b => ?_, fun q i a b => q i (by first | decide | omega) b⟩
        by_cases c : i = k
        · rw [c]; exact h2
        · exact q i (by first | decide | omega) b
      · rename_i h2
        exact ⟨fun q => absurd q (by decide), fun q => absurd (q k (Int.le_refl k) h1) h2⟩
    · rename_i h1
      exact ⟨fun _ i a b => by omega, fun _ => rfl⟩
theorem eqv_iff : eqv f g m k = 1 ↔ ∀ i : Int, k ≤ i → i < m → f i = g i := eqF_iff _ k (by first | decide | omega)
end EQV
/-- the letters of the twenty text constants, and how many they are -/
def wL (k : Nat) : Int := ((ksL.getD k 0 : Nat) : Int)
def wC (k : Nat) (i : Int) : Int := ((ksB.getD k []).getD i.toNat 0).toInt
/-- whether the token behind p is the word k -/
def wq (T : Tp) (n p : Int) (k : Nat) : Int := if tkK T n p = 1 then (if tkE T n p - tkS T n p = wL k then eqv (fun i => T (tkS T n p + i)) (wC k) (wL k) 0 else 0) else 0
/-- whether two stretches are the same -/
def smr (T : Tp) (a b c d : Int) : Int := if b - a = d - c then eqv (fun i => T (a + i)) (fun i => T (c + i)) (b - a) 0 else 0
/-! the reader's numbers: 0 where the token now there is looked for from, 1 flaw, 2 place, 3 told, 4 choices, 5 default, 6, 7 takes inside, outside, 8 depth, 9 size, 10.. opens, 20.., 30.. where names begin and end, 40.. most -/
abbrev Rg : Type := Int → Int
def ud (s : Rg) (i v : Int) : Rg := fun j => if j = i then v else s j
theorem ud_at (s : Rg) (i v : Int) : ud s i v i = v := if_pos rfl
theorem ud_ne {s : Rg} {i v j : Int} (h : j ≠ i) : ud s i v j = s j := if_neg h
/-- the k-th of three -/
def n3 (s : Rg) (b k : Int) : Int := if k = 0 then s b else if k = 1 then s (b + 1) else s (b + 2)
def u3 (s : Rg) (b k v : Int) : Rg := ud (ud (ud s b (if k = 0 then v else s b)) (b + 1) (if k = 1 then v else s (b + 1))) (b + 2) (if k = 2 then v else s (b + 2))
section STEPS
variable (T : Tp) (n : Int)
def pFl (w : Int) (s : Rg) : Rg := if s 1 = 0 then ud (ud s 1 w) 2 (tkS T n (s 0)) else s
def pAv (s : Rg) : Rg := ud s 0 (tkE T n (s 0))
def pEx (w : Int) (s : Rg) : Rg := if s 1 = 0 then (if tkK T n (s 0) = w then s else pFl T n (if tkK T n (s 0) = 3 then 1 else 2) s) else s
def pSg (w : Int) (s : Rg) : Rg := if pEx T n w s 1 = 0 then pAv T n (pEx T n w s) else pEx T n w s
def pKd (k : Nat) (s : Rg) : Rg := if pEx T n 1 s 1 = 0 then (if wq T n (pEx T n 1 s 0) k = 1 then pAv T n (pEx T n 1 s) else pFl T n 2 (pEx T n 1 s)) else pEx T n 1 s
def pNb (lo hi : Int) (s : Rg) : Rg := if pEx T n 2 s 1 = 0 then (if tkV T n (pEx T n 2 s 0) < lo then pFl T n 4 (pEx T n 2 s) else if hi < tkV T n (pEx T n 2 s 0) then pFl T n 4 (pEx T n 2 s) else pAv T n (pEx T n 2 s)) else pEx T n 2 s
def pPs (o : Int) (s : Rg) : Rg := ud (u3 s 10 (s 8) o) 8 (s 8 + 1)
def pPu (o : Int) (s : Rg) : Rg := if pEx T n 123 s 1 = 0 then (if pSg T n 123 s 8 < 3 then pPs o (pSg T n 123 s) else pSg T n 123 s) else pSg T n 123 s
/-- a block's end; o: what it stood for -/
def pEl (o : Int) (s : Rg) : Rg := if o = -1 then s else if Int.tmod o 2 = 0 then (if wq T n (s 0) 0 = 1 then pPu T n (o + 1) (pAv T n s) else s) else s
def pCe (s : Rg) : Rg := pEl T n (n3 s 10 (s 8 - 1)) (pAv T n (ud s 8 (s 8 - 1)))
def pRw (s : Rg) : Int := if 0 < s 8 then (if s 10 = -1 then (if 0 < s 4 then s 4 - 1 else 3) else 3) else 3
def pMi (k : Int) (s : Rg) : Int := if k = 7 then (if 0 < s 8 then 1 else 0) else if k = 8 then (if 0 < s 8 then 1 else 0) else if k = 9 then (if s 8 = 1 then (if pRw s = 3 then 1 else if n3 s 40 (pRw s) = -1 then 0 else 1) else 1) else if k = 1 then (if pRw s = 3 then (if s 6 = 0 then 0 else 1) else (if s 7 = 0 then 0 else 1)) else 0
def pWf (k : Int) (s : Rg) : Int := if k = -1 then 2 else if 30 ≤ s 3 then 3 else if 3 ≤ s 8 then 3 else if k = 8 then (if s 5 = -1 then (if pMi k s = 0 then 0 else 6) else 5) else (if pMi k s = 0 then 0 else 6)
def pCw (p : Int) : Int := if wq T n p 1 = 1 then 0 else if wq T n p 2 = 1 then 1 else if wq T n p 3 = 1 then 2 else if wq T n p 4 = 1 then 3 else if wq T n p 5 = 1 then 4 else if wq T n p 6 = 1 then 5 else if wq T n p 7 = 1 then 6 else if wq T n p 8 = 1 then 7 else if wq T n p 9 = 1 then 8 else if wq T n p 10 = 1 then 9 else -1
def pSt (s : Rg) : Rg := ud s 9 (if s 1 = 0 then (if s 9 < 30 then s 9 + 1 else s 9) else s 9)
def pWo (s : Rg) : Rg := pSt (pSg T n 59 (pNb T n 0 19 (pKd T n 11 (pNb T n 0 1000 s))))
/-- the numbers of a give, take, coin, pay -/
def pM1 (k : Int) (s : Rg) : Rg := if k = 0 then pNb T n 1 1000 s else if k = 1 then pNb T n 1 1000 s else pNb T n 0 9999999 s
def pM2 (k : Int) (s : Rg) : Rg := if k = 0 then pNb T n 0 19 (pKd T n 18 s) else s
def pV1 (k : Int) (s : Rg) : Int := if pM1 T n k s 1 = 0 then tkV T n (s 0) else -1
def pM3 (k m : Int) (s : Rg) : Rg := pNb T n (if k = 1 then m else 1) 1000 (pKd T n 19 s)
def pTk (k : Int) (s : Rg) : Rg := ud (ud s 7 (if k = 1 then (if pRw s = 3 then 1 else s 7) else s 7)) 6 (if k = 1 then (if pRw s = 3 then s 6 else 1) else s 6)
def pRt (k : Int) (s : Rg) : Rg := pTk k (pSt (pSg T n 59 (pM3 T n k (pV1 T n k s) (pM2 T n k (pM1 T n k s)))))
def pFr (s : Rg) : Rg := if pEx T n 1 s 1 = 0 then
    (if wq T n (pEx T n 1 s 0) 12 = 1 then pSt (pSg T n 59 (pAv T n (pEx T n 1 s))) else if wq T n (pEx T n 1 s 0) 13 = 1 then pSt (pSg T n 59 (pAv T n (pEx T n 1 s))) else if wq T n (pEx T n 1 s 0) 14 = 1 then pSt (pSg T n 59 (pAv T n (pEx T n 1 s)))
      else if wq T n (pEx T n 1 s 0) 3 = 1 then pSt (pSg T n 59 (pNb T n 0 9999999 (pAv T n (pEx T n 1 s)))) else pFl T n 2 (pEx T n 1 s))
  else pEx T n 1 s
def pCo (s : Rg) : Rg := if tkK T n (s 0) = 60 then pSg T n (tkK T n (s 0)) s else if tkK T n (s 0) = 62 then pSg T n (tkK T n (s 0)) s else pEx T n 60 s
def pWh (s : Rg) : Rg := pPu T n (s 9 * 2) (pSt (pNb T n 0 9999999 (pCo T n (pKd T n 15 s))))
def pNa (s : Rg) : Rg := if pEx T n 1 s 1 = 0 then (if tkE T n (pEx T n 1 s 0) - tkS T n (pEx T n 1 s 0) ≤ 8 then pEx T n 1 s else pFl T n 2 (pEx T n 1 s)) else pEx T n 1 s
def nmF (s : Rg) : Nat → Int → Int
  | 0, _ => -1
  | j + 1, k => if k < s 4 then (if smr T (tkS T n (s 0)) (tkE T n (s 0)) (n3 s 20 k) (n3 s 30 k) = 1 then k else nmF s j (k + 1)) else -1
/-- the first choice from k on that has the name that stands here -/
def pNm (s : Rg) (k : Int) : Int := nmF T n s (s 4 - k).toNat k
def pNw (s : Rg) : Rg := ud (u3 (u3 s 20 (s 4) (tkS T n (s 0))) 30 (s 4) (tkE T n (s 0))) 4 (s 4 + 1)
def pCh (s : Rg) : Rg := if pNa T n s 1 = 0 then (if pNa T n s 4 < 3 then (if pNm T n (pNa T n s) 0 = -1 then pPu T n (-1) (pAv T n (pNw T n (pNa T n s))) else pFl T n 5 (pNa T n s)) else pFl T n 3 (pNa T n s)) else pNa T n s
def pFa (s : Rg) : Rg := if pNa T n s 1 = 0 then (if pNm T n (pNa T n s) 0 = -1 then pFl T n 5 (pNa T n s) else pSg T n 59 (pAv T n (ud (pNa T n s) 5 (pNm T n (pNa T n s) 0)))) else pNa T n s
/-- most: the kind of cut -/
def pCu (s : Rg) : Rg := if pEx T n 1 s 1 = 0 then (if wq T n (pEx T n 1 s 0) 16 = 1 then pNb T n 0 9999999 (pAv T n (pEx T n 1 s)) else pKd T n 17 (pEx T n 1 s)) else pKd T n 17 (pEx T n 1 s)
def pMo (r v : Int) (s : Rg) : Rg := ud (ud (ud s 40 (if r = 0 then v else s 40)) 41 (if r = 1 then v else s 41)) 42 (if r = 2 then v else s 42)
def pVm (s : Rg) : Int := if pNb T n 0 9999999 s 1 = 0 then tkV T n (s 0) else -1
def pMs (s : Rg) : Rg := pMo (pRw s) (pVm T n s) (pSg T n 59 (pCu T n (pNb T n 0 9999999 s)))
def pKi (k : Int) (s : Rg) : Rg := if k = 4 then pWo T n s else if k = 5 then pFr T n s else if k = 6 then pWh T n s else if k = 7 then pCh T n s else if k = 8 then pFa T n s else if k = 9 then pMs T n s else pRt T n k s
def pCl (s : Rg) : Rg := if pEx T n 1 s 1 = 0 then (if pWf (pCw T n (pEx T n 1 s 0)) (pEx T n 1 s) = 0 then pKi T n (pCw T n (pEx T n 1 s 0)) (pAv T n (ud (pEx T n 1 s) 3 (s 3 + 1))) else pFl T n (pWf (pCw T n (pEx T n 1 s 0)) (pEx T n 1 s)) (pEx T n 1 s)) else pEx T n 1 s
def pSp (s : Rg) : Rg := if s 1 = 0 then (if tkK T n (s 0) = 0 then (if 0 < s 8 then pFl T n 2 s else s) else if tkK T n (s 0) = 125 then (if 0 < s 8 then pCe T n s else pCl T n s) else pCl T n s) else s
def pIt : Nat → Rg → Rg
  | 0, s => s
  | k + 1, s => pIt k (pSp T n s)
end STEPS
