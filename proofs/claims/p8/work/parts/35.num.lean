theorem mul_pos_bd {x y a b c d : Int} (a0 : 0 ≤ a) (c0 : 0 ≤ c) (h1 : a ≤ x) (h2 : x ≤ b) (h3 : c ≤ y) (h4 : y ≤ d) : a * c ≤ x * y ∧ x * y ≤ b * d :=
  ⟨Int.mul_le_mul h1 h3 c0 (by first | decide | omega), Int.mul_le_mul h2 h4 (by first | decide | omega) (by first | decide | omega)⟩
theorem mul_abs_bd {x y a b : Int} (h1 : -a ≤ x) (h2 : x ≤ a) (h3 : -b ≤ y) (h4 : y ≤ b) : -(a * b) ≤ x * y ∧ x * y ≤ a * b := by
  rcases Int.le_total 0 x with hx | hx <;> rcases Int.le_total 0 y with hy | hy
  · have q1 := Int.mul_le_mul h2 h4 hy (by omega : 0 ≤ a)
    have q2 := Int.mul_nonneg hx hy
    exact ⟨by omega, q1⟩
  · have q1 := Int.mul_le_mul (a := x) (b := -y) (c := a) (d := b) h2 (by first | decide | omega) (by first | decide | omega) (by omega : 0 ≤ a)
    have q2 := Int.mul_nonneg hx (by omega : 0 ≤ -y)
    rw [Int.mul_neg] at q1 q2
    have q3 := Int.mul_nonneg (by omega : 0 ≤ a) (by omega : 0 ≤ b)
    exact ⟨by omega, by omega⟩
  · have q1 := Int.mul_le_mul (a := -x) (b := y) (c := a) (d := b) (by first | decide | omega) h4 hy (by omega : 0 ≤ a)
    have q2 := Int.mul_nonneg (by omega : 0 ≤ -x) hy
    rw [Int.neg_mul] at q1 q2
    have q3 := Int.mul_nonneg (by omega : 0 ≤ a) (by omega : 0 ≤ b)
    exact ⟨by omega, by omega⟩
  · have q1 := Int.mul_le_mul (a := -x) (b := -y) (c := a) (d := b) (by first | decide | omega) (by first | decide | omega) (by first | decide | omega) (by omega : 0 ≤ a)
    have q2 := Int.mul_nonneg (by omega : 0 ≤ -x) (by omega : 0 ≤ -y)
    rw [Int.neg_mul_neg] at q1 q2
    exact ⟨by omega, q1⟩
theorem td_pos2 {q x y : Int} (h : q = Int.tdiv x y) (hx : 0 ≤ x) (hy : 0 < y) : 0 ≤ q ∧ q ≤ x ∧ q * y ≤ x ∧ (y ≤ x → 1 ≤ q) := by
  obtain ⟨h1, h2, h3⟩ := td_pos h hx hy
  refine ⟨h1, h2, h3, fun hyx => ?_⟩
  rw [h, Int.tdiv_eq_ediv_of_nonneg hx]
  exact (Int.le_ediv_iff_mul_le hy).mpr (by first | decide | omega)
theorem mul_le_td {p q u F : Int} (h1 : p ≤ u) (h2 : u * q ≤ F) (hp : 1 ≤ p) (hq : 1 ≤ q) : 1 ≤ p * q ∧ p * q ≤ F := by
  have a1 := Int.mul_le_mul (a := 1) (b := 1) (c := p) (d := q) hp hq (by first | decide | omega) (by first | decide | omega)
  have a2 := Int.mul_le_mul (a := p) (b := q) (c := u) (d := q) h1 (by first | decide | omega) (by first | decide | omega) (by first | decide | omega)
  exact ⟨by omega, by omega⟩
theorem gcd_step {p q r : Int} (h : r = Int.tmod p q) (hp : 0 ≤ p) (hq : 0 < q) : Int.gcd q r = Int.gcd p q := by
  rw [h, Int.tmod_eq_emod_of_nonneg hp]
  rw [Int.gcd_comm p q]
  obtain ⟨P, rfl⟩ := Int.eq_ofNat_of_zero_le hp
  obtain ⟨Q, rfl⟩ := Int.eq_ofNat_of_zero_le (Int.le_of_lt hq)
  show Int.gcd (Q : Int) ((P : Int) % (Q : Int)) = Int.gcd (Q : Int) (P : Int)
  have e1 : (P : Int) % (Q : Int) = ((P % Q : Nat) : Int) := by omega
  rw [e1]
  show Nat.gcd Q (P % Q) = Nat.gcd Q P
  rw [Nat.gcd_comm Q (P % Q), ← Nat.gcd_rec]
theorem gcd_end {p q a b : Int} (h : Int.gcd p q = Int.gcd a b) (hq : q = 0) (hp : 0 ≤ p) (hb : 1 ≤ b) : 1 ≤ p ∧ p ≤ b ∧ (1 ≤ a → p ≤ a) := by
  subst hq
  rw [Int.gcd_zero_right] at h
  have e : p = (Int.gcd a b : Int) := by omega
  have h1 : (Int.gcd a b : Int) ∣ b := Int.gcd_dvd_right a b
  have h2 : (Int.gcd a b : Int) ∣ a := Int.gcd_dvd_left a b
  have h3 : 0 < Int.gcd a b := Int.gcd_pos_of_ne_zero_right a (by first | decide | omega)
  refine ⟨by omega, by rw [e]; exact Int.le_of_dvd (by first | decide | omega) h1, fun ha => by rw [e]; exact Int.le_of_dvd (by first | decide | omega) h2⟩
