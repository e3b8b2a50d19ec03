/-- copied so far -/
def CPY (E : En) (B G : Gh) (v k : Int) : Prop := ∀ i : Int, 0 ≤ i → i < k → G 29 (Ad E 29) (30 * v + i) = B 63 (Ad E 63) i ∧ G 30 (Ad E 30) (30 * v + i) = B 64 (Ad E 64) i ∧ G 31 (Ad E 31) (30 * v + i) = B 65 (Ad E 65) i ∧ G 33 (Ad E 33) (30 * v + i) = B 67 (Ad E 67) i ∧ G 34 (Ad E 34) (30 * v + i) = B 68 (Ad E 68) i
/-- the clauses of the events ahead stay -/
def FR5 (E : En) (B G : Gh) (m : Int) : Prop := ∀ j : Int, j < m → G 29 (Ad E 29) j = B 29 (Ad E 29) j ∧ G 30 (Ad E 30) j = B 30 (Ad E 30) j ∧ G 31 (Ad E 31) j = B 31 (Ad E 31) j ∧ G 33 (Ad E 33) j = B 33 (Ad E 33) j ∧ G 34 (Ad E 34) j = B 34 (Ad E 34) j
theorem cpy_step {E : En} {B G G' : Gh} {v k : Int} (h : CPY E B G v k) (o : ∀ i : Int, 0 ≤ i → i < k → G' 29 (Ad E 29) (30 * v + i) = G 29 (Ad E 29) (30 * v + i) ∧ G' 30 (Ad E 30) (30 * v + i) = G 30 (Ad E 30) (30 * v + i) ∧ G' 31 (Ad E 31) (30 * v + i) = G 31 (Ad E 31) (30 * v + i) ∧ G' 33 (Ad E 33) (30 * v + i) = G 33 (Ad E 33) (30 * v + i) ∧ G' 34 (Ad E 34) (30 * v + i) = G 34 (Ad E 34) (30 * v + i)) (n : G' 29 (Ad E 29) (30 * v + k) = B 63 (Ad E 63) k ∧ G' 30 (Ad E 30) (30 * v + k) = B 64 (Ad E 64) k ∧ G' 31 (Ad E 31) (30 * v + k) = B 65 (Ad E 65) k ∧ G' 33 (Ad E 33) (30 * v + k) = B 67 (Ad E 67) k ∧ G' 34 (Ad E 34) (30 * v + k) = B 68 (Ad E 68) k) : CPY E B G' v (k + 1) := by
  intro i h0 h1
  by_cases e : i = k
  · subst e; exact n
  · obtain ⟨a1, a2, a3, a4, a5⟩ := h i h0 (by first | decide | omega)
    obtain ⟨b1, b2, b3, b4, b5⟩ := o i h0 (by first | decide | omega)
    exact ⟨b1.trans a1, b2.trans a2, b3.trans a3, b4.trans a4, b5.trans a5⟩
theorem fr5_trans {E : En} {B G G' : Gh} {m : Int} (h : FR5 E B G m) (h2 : FR5 E G G' m) : FR5 E B G' m := fun j hj => by
  obtain ⟨a1, a2, a3, a4, a5⟩ := h j hj
  obtain ⟨b1, b2, b3, b4, b5⟩ := h2 j hj
  exact ⟨b1.trans a1, b2.trans a2, b3.trans a3, b4.trans a4, b5.trans a5⟩
theorem mi_event {E : En} {G B G' : Gh} (mi : MI E G) {k n : Int} (hk : k = G 1 (Ad E 1) 9) (cb : ∀ i : Int, 0 ≤ i → i < k → G 26 (Ad E 26) i ≤ 30) (fr : FR5 E G G' (30 * k)) (cp : CPY E B G' k n) (ni : NI E B 0 n n) (a_accounts : G' 1 (Ad E 1) 6 = G 1 (Ad E 1) 6) (a_trades : G' 1 (Ad E 1) 8 = G 1 (Ad E 1) 8) (a_hints : G' 1 (Ad E 1) 13 = G 1 (Ad E 1) 13) (a_says : G' 1 (Ad E 1) 10 = G 1 (Ad E 1) 10) (a_options : G' 1 (Ad E 1) 11 = G 1 (Ad E 1) 11) (a_events : G' 1 (Ad E 1) 9 = k + 1) (b_hand : ∀ i : Int, G' 2 (Ad E 2) i = G 2 (Ad E 2) i) (b_tradeShares : ∀ i : Int, G' 14 (Ad E 14) i = G 14 (Ad E 14) i) (b_hintN : ∀ i : Int, G' 58 (Ad E 58) i = G 58 (Ad E 58) i) (b_hintOrder : ∀ i : Int, G' 59 (Ad E 59) i = G 59 (Ad E 59) i) (b_sayAccount : ∀ i : Int, G' 39 (Ad E 39) i = G 39 (Ad E 39) i) (b_optionStrike : ∀ i : Int, G' 46 (Ad E 46) i = G 46 (Ad E 46) i) (b_optionNumber : ∀ i : Int, G' 47 (Ad E 47) i = G 47 (Ad E 47) i) (b_cm : ∀ i : Int, i ≠ k → G' 26 (Ad E 26) i = G 26 (Ad E 26) i) (d_cm : G' 26 (Ad E 26) k = n) : MI E G' := by
  unfold MI at *
  obtain ⟨m1, m2, m3, m4, m5, m6, m7, m8⟩ := mi
  simp only [a_accounts, a_trades, a_hints, a_says, a_options, a_events, b_hand, b_tradeShares, b_hintN, b_hintOrder, b_sayAccount, b_optionStrike, b_optionNumber]
  refine ⟨m1, m2, m3, m4, m5, m6, m7, ?_⟩
  intro e c e0 e1 c0 c1
  by_cases h : e = k
  · subst h
    rw [d_cm] at c1 ⊢
    obtain ⟨a1, a2, a3, a4, a5⟩ := cp c c0 c1
    rw [a1, a2, a3, a4, a5]
    exact ni c c0 c1
  · rw [b_cm e h] at c1 ⊢
    have hb := cb e e0 (by first | decide | omega)
    obtain ⟨a1, a2, a3, a4, a5⟩ := fr (30 * e + c) (by first | decide | omega)
    rw [a1, a2, a3, a4, a5]
    exact m8 e c e0 (by first | decide | omega) c0 c1
section RNG
variable {E : En} {M : Mk} {as : List Vl} {d mc ms : Nat} {Y : Option Vl → Sg → Gh → Prop} {X : Xp} {cs ss : Nat} {S : Sg} {G : Gh} {pc : Nat} {st : List Vl} {lo : Lo} {a L : Int}
theorem r_rngI (hX : Cl E M as d mc ms Y X) {t n : Nat} {l h : Int} (hA : Al L t n (0, l, h)) (hS : S a = L) (k : (∀ i : Int, 0 ≤ i → i < n → l ≤ G L a i ∧ G L a i ≤ h) → X cs ss pc st lo S G) : X cs ss pc st lo S G := by
  obtain ⟨p, e, z, m, below, meth, c, hx, hb, hr, hml, hown, hlk, hnm, hts, hK, rfl⟩ := hX
  intro H locs ls hR hz hL hl
  obtain ⟨ha, hb0, hc, ho⟩ := arr_at hR hA hS
  refine k (fun i i1 i2 => ?_) H locs ls hR hz hL hl
  have hi : ((i.toNat : Nat) : Int) = i := by omega
  have hv := ho i.toNat (by first | decide | omega)
  rw [hi] at hv
  exact hv
end RNG
