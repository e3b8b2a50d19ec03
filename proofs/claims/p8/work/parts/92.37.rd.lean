/-- of the clauses that are being read, those ahead of m (but x) stay -/
def FRZ (E : En) (G G' : Gh) (m x : Int) : Prop := ∀ i : Int, 0 ≤ i → i < m → i ≠ x → G' 63 (Ad E 63) i = G 63 (Ad E 63) i ∧ G' 64 (Ad E 64) i = G 64 (Ad E 64) i ∧ G' 65 (Ad E 65) i = G 65 (Ad E 65) i ∧ G' 66 (Ad E 66) i = G 66 (Ad E 66) i ∧ G' 67 (Ad E 67) i = G 67 (Ad E 67) i ∧ G' 68 (Ad E 68) i = G 68 (Ad E 68) i
/-- the clauses lo .. hi - 1 are read whole -/
def NI (E : En) (G : Gh) (lo hi N : Int) : Prop := ∀ c : Int, lo ≤ c → c < hi → ClK c (G 63 (Ad E 63) c) (G 64 (Ad E 64) c) (G 65 (Ad E 65) c) (G 67 (Ad E 67) c) (G 68 (Ad E 68) c) N
theorem frz_trans {E : En} {G G1 G2 : Gh} {m x m' x' : Int} (h1 : FRZ E G G1 m x) (h2 : FRZ E G1 G2 m' x') (hm : m ≤ m') (hx : ∀ i : Int, 0 ≤ i → i < m → i ≠ x → i ≠ x') : FRZ E G G2 m x := by
  intro i h0 h3 h4
  obtain ⟨a1, a2, a3, a4, a5, a6⟩ := h1 i h0 h3 h4
  obtain ⟨b1, b2, b3, b4, b5, b6⟩ := h2 i h0 (by first | decide | omega) (hx i h0 h3 h4)
  exact ⟨b1.trans a1, b2.trans a2, b3.trans a3, b4.trans a4, b5.trans a5, b6.trans a6⟩
theorem clk_mono {c k o t m n N N' : Int} (h : ClK c k o t m n N) (hN : N ≤ N') : ClK c k o t m n N' := by
  unfold ClK at *
  omega
theorem ni_frz {E : En} {G G' : Gh} {lo hi N N' m x : Int} (h : NI E G lo hi N) (f : FRZ E G G' m x) (h0 : 0 ≤ lo) (hm : hi ≤ m) (hx : ∀ i : Int, lo ≤ i → i < hi → i ≠ x) (hN : N ≤ N') : NI E G' lo hi N' := by
  intro c h1 h2
  obtain ⟨a1, a2, a3, a4, a5, a6⟩ := f c (by first | decide | omega) (by first | decide | omega) (hx c h1 h2)
  rw [a1, a2, a3, a5, a6]
  exact clk_mono (h c h1 h2) hN
theorem ni_app {E : En} {G : Gh} {lo mi hi N : Int} (h1 : NI E G lo mi N) (h2 : NI E G mi hi N) : NI E G lo hi N := fun c a b => by
  by_cases h : c < mi
  · exact h1 c a h
  · exact h2 c (by first | decide | omega) b
theorem ni_nil {E : En} {G : Gh} {lo hi N : Int} (h : hi ≤ lo) : NI E G lo hi N := fun c a b => by omega
theorem ni_one {E : En} {G : Gh} {c k o t m n N : Int} (h1 : k = G 63 (Ad E 63) c) (h2 : o = G 64 (Ad E 64) c) (h3 : t = G 65 (Ad E 65) c) (h4 : m = G 67 (Ad E 67) c) (h5 : n = G 68 (Ad E 68) c) (h : ClK c k o t m n N) : NI E G c (c + 1) N := fun i a b => by
  have e : i = c := by omega
  subst e
  rw [← h1, ← h2, ← h3, ← h4, ← h5]
  exact h
