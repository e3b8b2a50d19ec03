/-! the tape's four bytes, told -/
theorem tLay_8 (t : Tz) (v : Int) : tLay t v 8 0 = t 8 0 + 4 := tu_at _ 8 0 _
theorem tLay_40 (t : Tz) (v i : Int) : tLay t v 40 i = layB (t 40) (t 8 0) v i := by
  have e : tLay t v 40 i = if i = t 8 0 + 3 then byt v 3 else if i = t 8 0 + 2 then byt v 2 else if i = t 8 0 + 1 then byt v 1 else if i = t 8 0 then byt v 0 else t 40 i := by
    unfold tLay
    rw [tu_nc (by decide)]
    rcases (by omega : i = t 8 0 + 3 ∨ i = t 8 0 + 2 ∨ i = t 8 0 + 1 ∨ i = t 8 0 ∨ (i ≠ t 8 0 + 3 ∧ i ≠ t 8 0 + 2 ∧ i ≠ t 8 0 + 1 ∧ i ≠ t 8 0)) with c | c | c | c | ⟨c3, c2, c1, c0⟩
    · rw [if_pos c, c, tu_at]
    · rw [if_neg (by first | decide | omega), if_pos c, tu_ni (by first | decide | omega), c, tu_at]
    · rw [if_neg (by first | decide | omega), if_neg (by first | decide | omega), if_pos c, tu_ni (by first | decide | omega), tu_ni (by first | decide | omega), c, tu_at]
    · rw [if_neg (by first | decide | omega), if_neg (by first | decide | omega), if_neg (by first | decide | omega), if_pos c, tu_ni (by first | decide | omega), tu_ni (by first | decide | omega), tu_ni (by first | decide | omega), c, tu_at]
    · rw [if_neg c3, if_neg c2, if_neg c1, if_neg c0, tu_ni c3, tu_ni c2, tu_ni c1, tu_ni c0]
  exact e
theorem layB_to {T U : Int → Int} {n : Int} (h : ∀ i : Int, 0 ≤ i → i < n → T i = U i) (v : Int) : ∀ i : Int, 0 ≤ i → i < n + 4 → layB T n v i = layB U n v i := fun i i0 i1 => by
  unfold layB
  by_cases c : i < n
  · rw [h i i0 c]
  · rcases (by omega : i = n + 3 ∨ i = n + 2 ∨ i = n + 1 ∨ i = n) with d | d | d | d
    · rw [if_pos d, if_pos d]
    · rw [if_neg (by first | decide | omega), if_pos d, if_neg (by first | decide | omega), if_pos d]
    · rw [if_neg (by first | decide | omega), if_neg (by first | decide | omega), if_pos d, if_neg (by first | decide | omega), if_neg (by first | decide | omega), if_pos d]
    · rw [if_neg (by first | decide | omega), if_neg (by first | decide | omega), if_neg (by first | decide | omega), if_pos d, if_neg (by first | decide | omega), if_neg (by first | decide | omega), if_neg (by first | decide | omega), if_pos d]
