/-- the order of the hints while a new one goes in: all but the place k hold old hints -/
def HNO (E : En) (G : Gh) (m k : Int) : Prop := ∀ i : Int, 0 ≤ i → i ≤ m → i ≠ k → G 59 (Ad E 59) i < m
theorem hno_in {E : En} {G : Gh} (mi : MI E G) {m : Int} (hm : m = G 1 (Ad E 1) 13) : HNO E G m m := fun i h0 h1 h2 => by
  have := mi.2.2.2.1 i h0 (by first | decide | omega)
  omega
theorem hno_step {E : En} {G G' : Gh} {m k k' : Int} (h : HNO E G m k) (o : ∀ i : Int, i ≠ k → G' 59 (Ad E 59) i = G 59 (Ad E 59) i) (n : G' 59 (Ad E 59) k = G 59 (Ad E 59) (k - 1)) (k0 : 0 < k) (k1 : k ≤ m) (e : k' = k - 1) : HNO E G' m k' := fun i h0 h1 h2 => by
  by_cases c : i = k
  · subst c; rw [n]; exact h _ (by first | decide | omega) (by first | decide | omega) (by first | decide | omega)
  · rw [o i c]; exact h i h0 h1 c
theorem mi_hint {E : En} {G B G' : Gh} (mi : MI E G) {m k u : Int} (hm : m = G 1 (Ad E 1) 13) (hu : 1 ≤ u) (hq : HNO E B m k) (a_accounts : G' 1 (Ad E 1) 6 = G 1 (Ad E 1) 6) (a_trades : G' 1 (Ad E 1) 8 = G 1 (Ad E 1) 8) (a_hints : G' 1 (Ad E 1) 13 = m + 1) (a_says : G' 1 (Ad E 1) 10 = G 1 (Ad E 1) 10) (a_options : G' 1 (Ad E 1) 11 = G 1 (Ad E 1) 11) (a_events : G' 1 (Ad E 1) 9 = G 1 (Ad E 1) 9) (b_hand : ∀ i : Int, G' 2 (Ad E 2) i = G 2 (Ad E 2) i) (b_tradeShares : ∀ i : Int, G' 14 (Ad E 14) i = G 14 (Ad E 14) i) (b_hintN : ∀ i : Int, i ≠ m → G' 58 (Ad E 58) i = G 58 (Ad E 58) i) (d_hintN : G' 58 (Ad E 58) m = u) (b_hintOrder : ∀ i : Int, i ≠ k → G' 59 (Ad E 59) i = B 59 (Ad E 59) i) (d_hintOrder : G' 59 (Ad E 59) k = m) (b_sayAccount : ∀ i : Int, G' 39 (Ad E 39) i = G 39 (Ad E 39) i) (b_optionStrike : ∀ i : Int, G' 46 (Ad E 46) i = G 46 (Ad E 46) i) (b_optionNumber : ∀ i : Int, G' 47 (Ad E 47) i = G 47 (Ad E 47) i) (b_clauseMany : ∀ i : Int, G' 26 (Ad E 26) i = G 26 (Ad E 26) i) (b_kind : ∀ i : Int, G' 29 (Ad E 29) i = G 29 (Ad E 29) i) (b_one : ∀ i : Int, G' 30 (Ad E 30) i = G 30 (Ad E 30) i) (b_two : ∀ i : Int, G' 31 (Ad E 31) i = G 31 (Ad E 31) i) (b_mid : ∀ i : Int, G' 33 (Ad E 33) i = G 33 (Ad E 33) i) (b_end : ∀ i : Int, G' 34 (Ad E 34) i = G 34 (Ad E 34) i) : MI E G' := by
  unfold MI at *
  obtain ⟨m1, m2, m3, m4, m5, m6, m7, m8⟩ := mi
  simp only [a_accounts, a_trades, a_hints, a_says, a_options, a_events, b_hand, b_tradeShares, b_sayAccount, b_optionStrike, b_optionNumber, b_clauseMany, b_kind, b_one, b_two, b_mid, b_end]
  refine ⟨m1, m2, ?_, ?_, m5, m6, m7, m8⟩
  · intro i h0 h1
    by_cases e : i = m
    · subst e; rw [d_hintN]; exact hu
    · rw [b_hintN i e]; exact m3 i h0 (by first | decide | omega)
  · intro i h0 h1
    by_cases e : i = k
    · subst e; rw [d_hintOrder]; omega
    · rw [b_hintOrder i e]; have := hq i h0 (by first | decide | omega) e; omega
