/-- what a clause read whole keeps -/
def ClK (c k o t m n N : Int) : Prop := c < n ∧ n ≤ N ∧ (k = 6 → c < m ∧ m ≤ N) ∧ (k ≠ 6 → 1 ≤ t) ∧ (k = 0 → 1 ≤ o ∧ o ≤ 1000) ∧ (k = 1 → 1 ≤ o ∧ o ≤ 1000) ∧ (k = 7 → 0 ≤ o ∧ o ≤ 2)
/-- what holds of the reference between calls, beside the ranges -/
def MI (E : En) (G : Gh) : Prop := (∀ i : Int, 0 ≤ i → i < G 1 (Ad E 1) 6 → G 2 (Ad E 2) i < i) ∧ (∀ i : Int, 0 ≤ i → i < G 1 (Ad E 1) 8 → 1 ≤ G 14 (Ad E 14) i) ∧ (∀ i : Int, 0 ≤ i → i < G 1 (Ad E 1) 13 → 1 ≤ G 58 (Ad E 58) i) ∧ (∀ i : Int, 0 ≤ i → i < G 1 (Ad E 1) 13 → G 59 (Ad E 59) i < G 1 (Ad E 1) 13) ∧ (∀ i : Int, 0 ≤ i → i < G 1 (Ad E 1) 10 → G 39 (Ad E 39) i < G 1 (Ad E 1) 6) ∧ (∀ i : Int, 0 ≤ i → i < G 1 (Ad E 1) 11 → 1 ≤ G 46 (Ad E 46) i) ∧ (∀ i : Int, 0 ≤ i → i < G 1 (Ad E 1) 11 → 1 ≤ G 47 (Ad E 47) i) ∧ (∀ e c : Int, 0 ≤ e → e < G 1 (Ad E 1) 9 → 0 ≤ c → c < G 26 (Ad E 26) e → ClK c (G 29 (Ad E 29) (30 * e + c)) (G 30 (Ad E 30) (30 * e + c)) (G 31 (Ad E 31) (30 * e + c)) (G 33 (Ad E 33) (30 * e + c)) (G 34 (Ad E 34) (30 * e + c)) (G 26 (Ad E 26) e))
theorem mi_keep {E : En} {G G' : Gh} (h : MI E G) (a_accounts : G' 1 (Ad E 1) 6 = G 1 (Ad E 1) 6) (a_trades : G' 1 (Ad E 1) 8 = G 1 (Ad E 1) 8) (a_hints : G' 1 (Ad E 1) 13 = G 1 (Ad E 1) 13) (a_says : G' 1 (Ad E 1) 10 = G 1 (Ad E 1) 10) (a_options : G' 1 (Ad E 1) 11 = G 1 (Ad E 1) 11) (a_events : G' 1 (Ad E 1) 9 = G 1 (Ad E 1) 9) (b_hand : ∀ i : Int, G' 2 (Ad E 2) i = G 2 (Ad E 2) i) (b_tradeShares : ∀ i : Int, G' 14 (Ad E 14) i = G 14 (Ad E 14) i) (b_hintN : ∀ i : Int, G' 58 (Ad E 58) i = G 58 (Ad E 58) i) (b_hintOrder : ∀ i : Int, G' 59 (Ad E 59) i = G 59 (Ad E 59) i) (b_sayAccount : ∀ i : Int, G' 39 (Ad E 39) i = G 39 (Ad E 39) i) (b_optionStrike : ∀ i : Int, G' 46 (Ad E 46) i = G 46 (Ad E 46) i) (b_optionNumber : ∀ i : Int, G' 47 (Ad E 47) i = G 47 (Ad E 47) i) (b_clauseMany : ∀ i : Int, G' 26 (Ad E 26) i = G 26 (Ad E 26) i) (b_kind : ∀ i : Int, G' 29 (Ad E 29) i = G 29 (Ad E 29) i) (b_one : ∀ i : Int, G' 30 (Ad E 30) i = G 30 (Ad E 30) i) (b_two : ∀ i : Int, G' 31 (Ad E 31) i = G 31 (Ad E 31) i) (b_mid : ∀ i : Int, G' 33 (Ad E 33) i = G 33 (Ad E 33) i) (b_end : ∀ i : Int, G' 34 (Ad E 34) i = G 34 (Ad E 34) i) : MI E G' := by
  unfold MI at *
  simp only [a_accounts, a_trades, a_hints, a_says, a_options, a_events, b_hand, b_tradeShares, b_hintN, b_hintOrder, b_sayAccount, b_optionStrike, b_optionNumber, b_clauseMany, b_kind, b_one, b_two, b_mid, b_end]
  exact h
theorem mi_hand {E : En} {G : Gh} (mi : MI E G) {i x k : Int} (hk : k = G 1 (Ad E 1) 6) (hx : x = G 2 (Ad E 2) i) (h0 : 0 ≤ i) (h1 : i < k) : x < i := by
  rw [hx]
  exact mi.1 i h0 (by first | decide | omega)
theorem mi_shares {E : En} {G : Gh} (mi : MI E G) {i x k : Int} (hk : k = G 1 (Ad E 1) 8) (hx : x = G 14 (Ad E 14) i) (h0 : 0 ≤ i) (h1 : i < k) : 1 ≤ x := by
  rw [hx]
  exact mi.2.1 i h0 (by first | decide | omega)
theorem mi_hintN {E : En} {G : Gh} (mi : MI E G) {i x k : Int} (hk : k = G 1 (Ad E 1) 13) (hx : x = G 58 (Ad E 58) i) (h0 : 0 ≤ i) (h1 : i < k) : 1 ≤ x := by
  rw [hx]
  exact mi.2.2.1 i h0 (by first | decide | omega)
theorem mi_hintO {E : En} {G : Gh} (mi : MI E G) {i x k : Int} (hk : k = G 1 (Ad E 1) 13) (hx : x = G 59 (Ad E 59) i) (h0 : 0 ≤ i) (h1 : i < k) : x < k := by
  rw [hx]
  rw [hk]
  exact mi.2.2.2.1 i h0 (by first | decide | omega)
theorem mi_sayA {E : En} {G : Gh} (mi : MI E G) {i x k a : Int} (hk : k = G 1 (Ad E 1) 10) (ha : a = G 1 (Ad E 1) 6) (hx : x = G 39 (Ad E 39) i) (h0 : 0 ≤ i) (h1 : i < k) : x < a := by
  rw [hx, ha]
  exact mi.2.2.2.2.1 i h0 (by first | decide | omega)
theorem mi_optS {E : En} {G : Gh} (mi : MI E G) {i x k : Int} (hk : k = G 1 (Ad E 1) 11) (hx : x = G 46 (Ad E 46) i) (h0 : 0 ≤ i) (h1 : i < k) : 1 ≤ x := by
  rw [hx]
  exact mi.2.2.2.2.2.1 i h0 (by first | decide | omega)
theorem mi_optN {E : En} {G : Gh} (mi : MI E G) {i x k : Int} (hk : k = G 1 (Ad E 1) 11) (hx : x = G 47 (Ad E 47) i) (h0 : 0 ≤ i) (h1 : i < k) : 1 ≤ x := by
  rw [hx]
  exact mi.2.2.2.2.2.2.1 i h0 (by first | decide | omega)
theorem mi_cls {E : En} {G : Gh} (mi : MI E G) {e c k n kv ov tv_ mv nv : Int} (hk : k = G 1 (Ad E 1) 9) (hn : n = G 26 (Ad E 26) e) (h1 : kv = G 29 (Ad E 29) (30 * e + c)) (h2 : ov = G 30 (Ad E 30) (30 * e + c)) (h3 : tv_ = G 31 (Ad E 31) (30 * e + c)) (h4 : mv = G 33 (Ad E 33) (30 * e + c)) (h5 : nv = G 34 (Ad E 34) (30 * e + c)) (e0 : 0 ≤ e) (e1 : e < k) (c0 : 0 ≤ c) (c1 : c < n) : c < nv ∧ nv ≤ n ∧ (kv = 6 → c < mv ∧ mv ≤ n) ∧ (kv ≠ 6 → 1 ≤ tv_) ∧ (kv = 0 → 1 ≤ ov ∧ ov ≤ 1000) ∧ (kv = 1 → 1 ≤ ov ∧ ov ≤ 1000) ∧ (kv = 7 → 0 ≤ ov ∧ ov ≤ 2) := by
  rw [h1, h2, h3, h4, h5, hn]
  exact mi.2.2.2.2.2.2.2 e c e0 (by first | decide | omega) c0 (by first | decide | omega)
theorem mi_account {E : En} {G G' : Gh} (mi : MI E G) {k u : Int} (hk : k = G 1 (Ad E 1) 6) (hu : u < k) (a_accounts : G' 1 (Ad E 1) 6 = k + 1) (a_trades : G' 1 (Ad E 1) 8 = G 1 (Ad E 1) 8) (a_hints : G' 1 (Ad E 1) 13 = G 1 (Ad E 1) 13) (a_says : G' 1 (Ad E 1) 10 = G 1 (Ad E 1) 10) (a_options : G' 1 (Ad E 1) 11 = G 1 (Ad E 1) 11) (a_events : G' 1 (Ad E 1) 9 = G 1 (Ad E 1) 9) (b_hand : ∀ i : Int, i ≠ k → G' 2 (Ad E 2) i = G 2 (Ad E 2) i) (d_hand : G' 2 (Ad E 2) k = u) (b_tradeShares : ∀ i : Int, G' 14 (Ad E 14) i = G 14 (Ad E 14) i) (b_hintN : ∀ i : Int, G' 58 (Ad E 58) i = G 58 (Ad E 58) i) (b_hintOrder : ∀ i : Int, G' 59 (Ad E 59) i = G 59 (Ad E 59) i) (b_sayAccount : ∀ i : Int, G' 39 (Ad E 39) i = G 39 (Ad E 39) i) (b_optionStrike : ∀ i : Int, G' 46 (Ad E 46) i = G 46 (Ad E 46) i) (b_optionNumber : ∀ i : Int, G' 47 (Ad E 47) i = G 47 (Ad E 47) i) (b_clauseMany : ∀ i : Int, G' 26 (Ad E 26) i = G 26 (Ad E 26) i) (b_kind : ∀ i : Int, G' 29 (Ad E 29) i = G 29 (Ad E 29) i) (b_one : ∀ i : Int, G' 30 (Ad E 30) i = G 30 (Ad E 30) i) (b_two : ∀ i : Int, G' 31 (Ad E 31) i = G 31 (Ad E 31) i) (b_mid : ∀ i : Int, G' 33 (Ad E 33) i = G 33 (Ad E 33) i) (b_end : ∀ i : Int, G' 34 (Ad E 34) i = G 34 (Ad E 34) i) : MI E G' := by
  unfold MI at *
  obtain ⟨m1, m2, m3, m4, m5, m6, m7, m8⟩ := mi
  simp only [a_accounts, a_trades, a_hints, a_says, a_options, a_events, b_tradeShares, b_hintN, b_hintOrder, b_sayAccount, b_optionStrike, b_optionNumber, b_clauseMany, b_kind, b_one, b_two, b_mid, b_end]
  refine ⟨fun i h0 h1 => by by_cases e : i = k; (subst e; rw [d_hand]; omega); (rw [b_hand i e]; exact m1 i h0 (by first | decide | omega)), m2, m3, m4, fun i h0 h1 => by have := m5 i h0 h1; omega, m6, m7, m8⟩
theorem mi_trade {E : En} {G G' : Gh} (mi : MI E G) {k u : Int} (hk : k = G 1 (Ad E 1) 8) (hu : 1 ≤ u) (a_accounts : G' 1 (Ad E 1) 6 = G 1 (Ad E 1) 6) (a_trades : G' 1 (Ad E 1) 8 = k + 1) (a_hints : G' 1 (Ad E 1) 13 = G 1 (Ad E 1) 13) (a_says : G' 1 (Ad E 1) 10 = G 1 (Ad E 1) 10) (a_options : G' 1 (Ad E 1) 11 = G 1 (Ad E 1) 11) (a_events : G' 1 (Ad E 1) 9 = G 1 (Ad E 1) 9) (b_hand : ∀ i : Int, G' 2 (Ad E 2) i = G 2 (Ad E 2) i) (b_tradeShares : ∀ i : Int, i ≠ k → G' 14 (Ad E 14) i = G 14 (Ad E 14) i) (d_tradeShares : G' 14 (Ad E 14) k = u) (b_hintN : ∀ i : Int, G' 58 (Ad E 58) i = G 58 (Ad E 58) i) (b_hintOrder : ∀ i : Int, G' 59 (Ad E 59) i = G 59 (Ad E 59) i) (b_sayAccount : ∀ i : Int, G' 39 (Ad E 39) i = G 39 (Ad E 39) i) (b_optionStrike : ∀ i : Int, G' 46 (Ad E 46) i = G 46 (Ad E 46) i) (b_optionNumber : ∀ i : Int, G' 47 (Ad E 47) i = G 47 (Ad E 47) i) (b_clauseMany : ∀ i : Int, G' 26 (Ad E 26) i = G 26 (Ad E 26) i) (b_kind : ∀ i : Int, G' 29 (Ad E 29) i = G 29 (Ad E 29) i) (b_one : ∀ i : Int, G' 30 (Ad E 30) i = G 30 (Ad E 30) i) (b_two : ∀ i : Int, G' 31 (Ad E 31) i = G 31 (Ad E 31) i) (b_mid : ∀ i : Int, G' 33 (Ad E 33) i = G 33 (Ad E 33) i) (b_end : ∀ i : Int, G' 34 (Ad E 34) i = G 34 (Ad E 34) i) : MI E G' := by
  unfold MI at *
  obtain ⟨m1, m2, m3, m4, m5, m6, m7, m8⟩ := mi
  simp only [a_accounts, a_trades, a_hints, a_says, a_options, a_events, b_hand, b_hintN, b_hintOrder, b_sayAccount, b_optionStrike, b_optionNumber, b_clauseMany, b_kind, b_one, b_two, b_mid, b_end]
  refine ⟨m1, fun i h0 h1 => by by_cases e : i = k; (subst e; rw [d_tradeShares]; omega); (rw [b_tradeShares i e]; exact m2 i h0 (by first | decide | omega)), m3, m4, m5, m6, m7, m8⟩
theorem mi_choose {E : En} {G G' : Gh} (mi : MI E G) {k u : Int} (hk : k = G 1 (Ad E 1) 10) (hu : u < G 1 (Ad E 1) 6) (a_accounts : G' 1 (Ad E 1) 6 = G 1 (Ad E 1) 6) (a_trades : G' 1 (Ad E 1) 8 = G 1 (Ad E 1) 8) (a_hints : G' 1 (Ad E 1) 13 = G 1 (Ad E 1) 13) (a_says : G' 1 (Ad E 1) 10 = k + 1) (a_options : G' 1 (Ad E 1) 11 = G 1 (Ad E 1) 11) (a_events : G' 1 (Ad E 1) 9 = G 1 (Ad E 1) 9) (b_hand : ∀ i : Int, G' 2 (Ad E 2) i = G 2 (Ad E 2) i) (b_tradeShares : ∀ i : Int, G' 14 (Ad E 14) i = G 14 (Ad E 14) i) (b_hintN : ∀ i : Int, G' 58 (Ad E 58) i = G 58 (Ad E 58) i) (b_hintOrder : ∀ i : Int, G' 59 (Ad E 59) i = G 59 (Ad E 59) i) (b_sayAccount : ∀ i : Int, i ≠ k → G' 39 (Ad E 39) i = G 39 (Ad E 39) i) (d_sayAccount : G' 39 (Ad E 39) k = u) (b_optionStrike : ∀ i : Int, G' 46 (Ad E 46) i = G 46 (Ad E 46) i) (b_optionNumber : ∀ i : Int, G' 47 (Ad E 47) i = G 47 (Ad E 47) i) (b_clauseMany : ∀ i : Int, G' 26 (Ad E 26) i = G 26 (Ad E 26) i) (b_kind : ∀ i : Int, G' 29 (Ad E 29) i = G 29 (Ad E 29) i) (b_one : ∀ i : Int, G' 30 (Ad E 30) i = G 30 (Ad E 30) i) (b_two : ∀ i : Int, G' 31 (Ad E 31) i = G 31 (Ad E 31) i) (b_mid : ∀ i : Int, G' 33 (Ad E 33) i = G 33 (Ad E 33) i) (b_end : ∀ i : Int, G' 34 (Ad E 34) i = G 34 (Ad E 34) i) : MI E G' := by
  unfold MI at *
  obtain ⟨m1, m2, m3, m4, m5, m6, m7, m8⟩ := mi
  simp only [a_accounts, a_trades, a_hints, a_says, a_options, a_events, b_hand, b_tradeShares, b_hintN, b_hintOrder, b_optionStrike, b_optionNumber, b_clauseMany, b_kind, b_one, b_two, b_mid, b_end]
  refine ⟨m1, m2, m3, m4, fun i h0 h1 => by by_cases e : i = k; (subst e; rw [d_sayAccount]; omega); (rw [b_sayAccount i e]; exact m5 i h0 (by first | decide | omega)), m6, m7, m8⟩
theorem mi_option {E : En} {G G' : Gh} (mi : MI E G) {k u w : Int} (hk : k = G 1 (Ad E 1) 11) (hu : 1 ≤ u) (hw : 1 ≤ w) (a_accounts : G' 1 (Ad E 1) 6 = G 1 (Ad E 1) 6) (a_trades : G' 1 (Ad E 1) 8 = G 1 (Ad E 1) 8) (a_hints : G' 1 (Ad E 1) 13 = G 1 (Ad E 1) 13) (a_says : G' 1 (Ad E 1) 10 = G 1 (Ad E 1) 10) (a_options : G' 1 (Ad E 1) 11 = k + 1) (a_events : G' 1 (Ad E 1) 9 = G 1 (Ad E 1) 9) (b_hand : ∀ i : Int, G' 2 (Ad E 2) i = G 2 (Ad E 2) i) (b_tradeShares : ∀ i : Int, G' 14 (Ad E 14) i = G 14 (Ad E 14) i) (b_hintN : ∀ i : Int, G' 58 (Ad E 58) i = G 58 (Ad E 58) i) (b_hintOrder : ∀ i : Int, G' 59 (Ad E 59) i = G 59 (Ad E 59) i) (b_sayAccount : ∀ i : Int, G' 39 (Ad E 39) i = G 39 (Ad E 39) i) (b_optionStrike : ∀ i : Int, i ≠ k → G' 46 (Ad E 46) i = G 46 (Ad E 46) i) (d_optionStrike : G' 46 (Ad E 46) k = u) (b_optionNumber : ∀ i : Int, i ≠ k → G' 47 (Ad E 47) i = G 47 (Ad E 47) i) (d_optionNumber : G' 47 (Ad E 47) k = w) (b_clauseMany : ∀ i : Int, G' 26 (Ad E 26) i = G 26 (Ad E 26) i) (b_kind : ∀ i : Int, G' 29 (Ad E 29) i = G 29 (Ad E 29) i) (b_one : ∀ i : Int, G' 30 (Ad E 30) i = G 30 (Ad E 30) i) (b_two : ∀ i : Int, G' 31 (Ad E 31) i = G 31 (Ad E 31) i) (b_mid : ∀ i : Int, G' 33 (Ad E 33) i = G 33 (Ad E 33) i) (b_end : ∀ i : Int, G' 34 (Ad E 34) i = G 34 (Ad E 34) i) : MI E G' := by
  unfold MI at *
  obtain ⟨m1, m2, m3, m4, m5, m6, m7, m8⟩ := mi
  simp only [a_accounts, a_trades, a_hints, a_says, a_options, a_events, b_hand, b_tradeShares, b_hintN, b_hintOrder, b_sayAccount, b_clauseMany, b_kind, b_one, b_two, b_mid, b_end]
  refine ⟨m1, m2, m3, m4, m5, fun i h0 h1 => by by_cases e : i = k; (subst e; rw [d_optionStrike]; omega); (rw [b_optionStrike i e]; exact m6 i h0 (by first | decide | omega)), fun i h0 h1 => by by_cases e : i = k; (subst e; rw [d_optionNumber]; omega); (rw [b_optionNumber i e]; exact m7 i h0 (by first | decide | omega)), m8⟩
section PEE
variable {E : En} {M : Mk} {as : List Vl} {d mc ms : Nat} {Y : Option Vl → Sg → Gh → Prop} {X : Xp} {cs ss : Nat} {S : Sg} {G : Gh} {P : Cod} {pc tgt idx : Nat} {st : List Vl} {lo : Lo} {x y off a L : Int}
theorem r_labC (hX : Cl E M as d mc ms Y X) {j : Nat} {L2 h : Int} (hT : Tl L j (4, L2, h)) (hS : S a = L) (k : S (Ad E L2) = L2 → X cs ss pc st lo S G) : X cs ss pc st lo S G := r_peek hX hT hS (fun o => k (by rw [← o.1]; exact o.2.1))
theorem r_apeek (hX : Cl E M as d mc ms Y X) {t n : Nat} {b : Ty} {i : Int} (hA : Al L t n b) (hS : S a = L) (i1 : 0 ≤ i) (i2 : i < n) (k : okv E S b (G L a i) → X cs ss pc st lo S G) : X cs ss pc st lo S G := by
  obtain ⟨p, e, z, m, below, meth, c, hx, hb, hr, hml, hown, hlk, hnm, hts, hK, rfl⟩ := hX
  intro H locs ls hR hz hL hl
  obtain ⟨ha, hb0, hc, ho⟩ := arr_at hR hA hS
  have hi : ((i.toNat : Nat) : Int) = i := by omega
  have hv := ho i.toNat (by first | decide | omega)
  rw [hi] at hv
  exact k hv H locs ls hR hz hL hl
theorem r_apeekI (hX : Cl E M as d mc ms Y X) {t n : Nat} {l h i : Int} (hA : Al L t n (0, l, h)) (hS : S a = L) (i1 : 0 ≤ i) (i2 : i < n) (k : ∀ v : Int, v = G L a i → l ≤ v → v ≤ h → X cs ss pc st lo S G) : X cs ss pc st lo S G := r_apeek hX hA hS i1 i2 (fun o => k _ rfl o.1 o.2)
theorem r_apeekL (hX : Cl E M as d mc ms Y X) {t n : Nat} {l h i : Int} (hA : Al L t n (1, l, h)) (hS : S a = L) (i1 : 0 ≤ i) (i2 : i < n) (k : ∀ v : Int, v = G L a i → l ≤ v → v ≤ h → X cs ss pc st lo S G) : X cs ss pc st lo S G := r_apeek hX hA hS i1 i2 (fun o => k _ rfl o.1 o.2)
end PEE
