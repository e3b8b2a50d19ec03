/-! what is told, on the reference's side -/
def M0 (E : En) (G : Gh) (t : Tz) : Prop := G 1 (Ad E 1) 6 = t 0 0 ∧ G 1 (Ad E 1) 7 = t 1 0 ∧ G 1 (Ad E 1) 8 = t 2 0 ∧ G 1 (Ad E 1) 9 = t 3 0 ∧ G 1 (Ad E 1) 10 = t 4 0 ∧ G 1 (Ad E 1) 11 = t 5 0 ∧ G 1 (Ad E 1) 12 = t 6 0 ∧ G 1 (Ad E 1) 3 = t 7 0 ∧ G 1 (Ad E 1) 76 = t 8 0 ∧ G 1 (Ad E 1) 2 = t 9 0 ∧ G 1 (Ad E 1) 78 = t 10 0 ∧ G 1 (Ad E 1) 79 = t 11 0
def M1 (E : En) (G : Gh) (t : Tz) : Prop := ∀ i : Int, 0 ≤ i → i < G 1 (Ad E 1) 8 → ((t 20 i = -1 ∧ G 18 (Ad E 18) i = 1000000000) ∨ (0 ≤ t 20 i ∧ t 20 i ≤ 40000 ∧ G 18 (Ad E 18) i = t 20 i))
def M2 (E : En) (G : Gh) (t : Tz) : Prop := ∀ i : Int, 0 ≤ i → i < G 1 (Ad E 1) 9 → ((t 21 i = -1 ∧ G 25 (Ad E 25) i = 1000000000) ∨ (0 ≤ t 21 i ∧ t 21 i ≤ 40000 ∧ G 25 (Ad E 25) i = t 21 i)) ∧ G 27 (Ad E 27) i = t 23 i
def M3 (E : En) (G : Gh) (t : Tz) : Prop := ∀ i : Int, 0 ≤ i → i < G 1 (Ad E 1) 10 → ((t 22 i = -1 ∧ G 43 (Ad E 43) i = 1000000000) ∨ (0 ≤ t 22 i ∧ t 22 i ≤ 40000 ∧ G 43 (Ad E 43) i = t 22 i))
def M4 (E : En) (G : Gh) (t : Tz) : Prop := ∀ i : Int, 0 ≤ i → i < G 1 (Ad E 1) 12 → G 50 (Ad E 50) i = t 30 i ∧ G 52 (Ad E 52) i = t 31 i ∧ G 51 (Ad E 51) i = t 32 i ∧ G 53 (Ad E 53) i = t 33 i
def M5 (E : En) (G : Gh) (t : Tz) : Prop := ∀ i : Int, 0 ≤ i → i < G 1 (Ad E 1) 76 → G 61 (Ad E 61) i % 256 = t 40 i
def RelM (E : En) (G : Gh) (t : Tz) : Prop := M0 E G t ∧ M1 E G t ∧ M2 E G t ∧ M3 E G t ∧ M4 E G t ∧ M5 E G t
section RMF
variable {E : En} {G G' : Gh} {t : Tz}
theorem m0_keep (h : M0 E G t) (a_accounts : G' 1 (Ad E 1) 6 = G 1 (Ad E 1) 6) (a_issues : G' 1 (Ad E 1) 7 = G 1 (Ad E 1) 7) (a_trades : G' 1 (Ad E 1) 8 = G 1 (Ad E 1) 8) (a_events : G' 1 (Ad E 1) 9 = G 1 (Ad E 1) 9) (a_says : G' 1 (Ad E 1) 10 = G 1 (Ad E 1) 10) (a_options : G' 1 (Ad E 1) 11 = G 1 (Ad E 1) 11) (a_names : G' 1 (Ad E 1) 12 = G 1 (Ad E 1) 12) (a_latest : G' 1 (Ad E 1) 3 = G 1 (Ad E 1) 3) (a_taped : G' 1 (Ad E 1) 76 = G 1 (Ad E 1) 76) (a_asof : G' 1 (Ad E 1) 2 = G 1 (Ad E 1) 2) (a_faultKind : G' 1 (Ad E 1) 78 = G 1 (Ad E 1) 78) (a_faultAt : G' 1 (Ad E 1) 79 = G 1 (Ad E 1) 79) : M0 E G' t := by
  unfold M0 at *
  rw [a_accounts, a_issues, a_trades, a_events, a_says, a_options, a_names, a_latest, a_taped, a_asof, a_faultKind, a_faultAt]
  exact h
theorem m1_keep (h : M1 E G t) (a_trades : G' 1 (Ad E 1) 8 = G 1 (Ad E 1) 8) (b_tradeStruck : ∀ i : Int, G' 18 (Ad E 18) i = G 18 (Ad E 18) i) : M1 E G' t := by
  intro i i0 i1
  rw [a_trades] at i1
  have q := h i i0 i1
  rw [b_tradeStruck]
  exact q
theorem m2_keep (h : M2 E G t) (a_events : G' 1 (Ad E 1) 9 = G 1 (Ad E 1) 9) (b_eventStruck : ∀ i : Int, G' 25 (Ad E 25) i = G 25 (Ad E 25) i) (b_choiceMany : ∀ i : Int, G' 27 (Ad E 27) i = G 27 (Ad E 27) i) : M2 E G' t := by
  intro i i0 i1
  rw [a_events] at i1
  have q := h i i0 i1
  rw [b_eventStruck, b_choiceMany]
  exact q
theorem m3_keep (h : M3 E G t) (a_says : G' 1 (Ad E 1) 10 = G 1 (Ad E 1) 10) (b_sayStruck : ∀ i : Int, G' 43 (Ad E 43) i = G 43 (Ad E 43) i) : M3 E G' t := by
  intro i i0 i1
  rw [a_says] at i1
  have q := h i i0 i1
  rw [b_sayStruck]
  exact q
theorem m4_keep (h : M4 E G t) (a_names : G' 1 (Ad E 1) 12 = G 1 (Ad E 1) 12) (b_nameOf : ∀ i : Int, G' 50 (Ad E 50) i = G 50 (Ad E 50) i) (b_nameDay : ∀ i : Int, G' 52 (Ad E 52) i = G 52 (Ad E 52) i) (b_nameIs : ∀ i : Int, G' 51 (Ad E 51) i = G 51 (Ad E 51) i) (b_nameKnown : ∀ i : Int, G' 53 (Ad E 53) i = G 53 (Ad E 53) i) : M4 E G' t := by
  intro i i0 i1
  rw [a_names] at i1
  have q := h i i0 i1
  rw [b_nameOf, b_nameDay, b_nameIs, b_nameKnown]
  exact q
theorem m5_keep (h : M5 E G t) (a_taped : G' 1 (Ad E 1) 76 = G 1 (Ad E 1) 76) (b_tape : ∀ i : Int, G' 61 (Ad E 61) i = G 61 (Ad E 61) i) : M5 E G' t := by
  intro i i0 i1
  rw [a_taped] at i1
  have q := h i i0 i1
  rw [b_tape]
  exact q
theorem relm_keep (h : RelM E G t) (a_accounts : G' 1 (Ad E 1) 6 = G 1 (Ad E 1) 6) (a_issues : G' 1 (Ad E 1) 7 = G 1 (Ad E 1) 7) (a_trades : G' 1 (Ad E 1) 8 = G 1 (Ad E 1) 8) (a_events : G' 1 (Ad E 1) 9 = G 1 (Ad E 1) 9) (a_says : G' 1 (Ad E 1) 10 = G 1 (Ad E 1) 10) (a_options : G' 1 (Ad E 1) 11 = G 1 (Ad E 1) 11) (a_names : G' 1 (Ad E 1) 12 = G 1 (Ad E 1) 12) (a_latest : G' 1 (Ad E 1) 3 = G 1 (Ad E 1) 3) (a_taped : G' 1 (Ad E 1) 76 = G 1 (Ad E 1) 76) (a_asof : G' 1 (Ad E 1) 2 = G 1 (Ad E 1) 2) (a_faultKind : G' 1 (Ad E 1) 78 = G 1 (Ad E 1) 78) (a_faultAt : G' 1 (Ad E 1) 79 = G 1 (Ad E 1) 79) (b_tradeStruck : ∀ i : Int, G' 18 (Ad E 18) i = G 18 (Ad E 18) i) (b_eventStruck : ∀ i : Int, G' 25 (Ad E 25) i = G 25 (Ad E 25) i) (b_choiceMany : ∀ i : Int, G' 27 (Ad E 27) i = G 27 (Ad E 27) i) (b_sayStruck : ∀ i : Int, G' 43 (Ad E 43) i = G 43 (Ad E 43) i) (b_nameOf : ∀ i : Int, G' 50 (Ad E 50) i = G 50 (Ad E 50) i) (b_nameDay : ∀ i : Int, G' 52 (Ad E 52) i = G 52 (Ad E 52) i) (b_nameIs : ∀ i : Int, G' 51 (Ad E 51) i = G 51 (Ad E 51) i) (b_nameKnown : ∀ i : Int, G' 53 (Ad E 53) i = G 53 (Ad E 53) i) (b_tape : ∀ i : Int, G' 61 (Ad E 61) i = G 61 (Ad E 61) i) : RelM E G' t := ⟨m0_keep h.1 a_accounts a_issues a_trades a_events a_says a_options a_names a_latest a_taped a_asof a_faultKind a_faultAt, m1_keep h.2.1 a_trades b_tradeStruck, m2_keep h.2.2.1 a_events b_eventStruck b_choiceMany, m3_keep h.2.2.2.1 a_says b_sayStruck, m4_keep h.2.2.2.2.1 a_names b_nameOf b_nameDay b_nameIs b_nameKnown, m5_keep h.2.2.2.2.2 a_taped b_tape⟩
end RMF
/-! the reference's four bytes -/
theorem shr_aux {x z : Int} (y : Int) (n : Nat) (hn : ((Int32.ofInt y &&& 31).toBitVec.smod 32).toNat = n) (x1 : -2147483648 ≤ x) (x2 : x ≤ 2147483647) (z1 : -2147483648 ≤ z) (z2 : z ≤ 2147483647) (h : Int32.ofInt z = Int32.ofInt x >>> (Int32.ofInt y &&& 31)) : z = x / ((2 ^ n : Nat) : Int) := by
  have hb : (Int32.ofInt z).toBitVec = BitVec.sshiftRight' (Int32.ofInt x).toBitVec ((Int32.ofInt y &&& 31).toBitVec.smod 32) := by rw [h]; rfl
  have hi : (Int32.ofInt z).toBitVec.toInt = (Int32.ofInt x).toBitVec.toInt / ((2 ^ n : Nat) : Int) := by
    rw [hb, BitVec.toInt_sshiftRight', hn, Int.shiftRight_eq_div_pow]
  have ez : (Int32.ofInt z).toBitVec.toInt = z := i32t z1 z2
  have ex : (Int32.ofInt x).toBitVec.toInt = x := i32t x1 x2
  rw [ez, ex] at hi
  exact hi
theorem shr_24 {x z : Int} (x1 : -2147483648 ≤ x) (x2 : x ≤ 2147483647) (z1 : -2147483648 ≤ z) (z2 : z ≤ 2147483647) (h : Int32.ofInt z = Int32.ofInt x >>> (Int32.ofInt 24 &&& 31)) : z = x / 16777216 := shr_aux 24 24 (by decide) x1 x2 z1 z2 h
theorem shr_16 {x z : Int} (x1 : -2147483648 ≤ x) (x2 : x ≤ 2147483647) (z1 : -2147483648 ≤ z) (z2 : z ≤ 2147483647) (h : Int32.ofInt z = Int32.ofInt x >>> (Int32.ofInt 16 &&& 31)) : z = x / 65536 := shr_aux 16 16 (by decide) x1 x2 z1 z2 h
theorem shr_8 {x z : Int} (x1 : -2147483648 ≤ x) (x2 : x ≤ 2147483647) (z1 : -2147483648 ≤ z) (z2 : z ≤ 2147483647) (h : Int32.ofInt z = Int32.ofInt x >>> (Int32.ofInt 8 &&& 31)) : z = x / 256 := shr_aux 8 8 (by decide) x1 x2 z1 z2 h
theorem shr_0 {x z : Int} (x1 : -2147483648 ≤ x) (x2 : x ≤ 2147483647) (z1 : -2147483648 ≤ z) (z2 : z ≤ 2147483647) (h : Int32.ofInt z = Int32.ofInt x >>> (Int32.ofInt 0 &&& 31)) : z = x / 1 := shr_aux 0 0 (by decide) x1 x2 z1 z2 h
theorem i2b_em {b q : Int} (b1 : -128 ≤ b) (b2 : b ≤ 127) (q1 : -2147483648 ≤ q) (q2 : q ≤ 2147483647) (h : Int32.ofInt b = (Int32.ofInt q).toInt8.toInt32) : b % 256 = q % 256 := by
  have e := congrArg Int32.toInt h
  rw [Int8.toInt_toInt32, Int32.toInt_toInt8, i32t (by first | decide | omega) (by first | decide | omega), i32t q1 q2] at e
  rw [e]
  have e2 : ((2 : Nat) ^ 8) = 256 := rfl
  rw [e2]
  exact Int.bmod_emod
/-- the byte of the four that is k from the end -/
theorem lay_byt {v k q b : Int} (k0 : 0 ≤ k) (k3 : k ≤ 3) (v1 : -2147483648 ≤ v) (v2 : v ≤ 2147483647) (q1 : -2147483648 ≤ q) (q2 : q ≤ 2147483647) (b1 : -128 ≤ b) (b2 : b ≤ 127) (hq : Int32.ofInt q = Int32.ofInt v >>> (Int32.ofInt (8 * k) &&& 31)) (hb : Int32.ofInt b = (Int32.ofInt q).toInt8.toInt32) : b % 256 = byt v (3 - k) := by
  rw [i2b_em b1 b2 q1 q2 hb]
  rcases (by omega : k = 0 ∨ k = 1 ∨ k = 2 ∨ k = 3) with c | c | c | c <;> subst c
  · rw [shr_0 v1 v2 q1 q2 hq]
    show v / 1 % 256 = v % 256
    rw [Int.ediv_one]
  · rw [shr_8 v1 v2 q1 q2 hq]
    rfl
  · rw [shr_16 v1 v2 q1 q2 hq]
    rfl
  · rw [shr_24 v1 v2 q1 q2 hq]
    rfl
/-- m of the four bytes lie from n on -/
def layM (T : Int → Int) (n v m : Int) : Int → Int := fun i => if n ≤ i ∧ i < n + m then byt v (i - n) else T i
theorem layM_0 (T : Int → Int) (n v i : Int) : T i = layM T n v 0 i := by
  unfold layM
  rw [if_neg (by first | decide | omega)]
theorem layM_step {G : Gh} {T : Int → Int} {L a p n v m b : Int} (h : ∀ i : Int, G L a i % 256 = layM T n v m i) (hp : p = n + m) (m0 : 0 ≤ m) (hb : b % 256 = byt v m) : ∀ i : Int, (up G L a p b) L a i % 256 = layM T n v (m + 1) i := by
  intro i
  rw [up_if]
  by_cases c : i = p
  · rw [if_pos c, hb]
    unfold layM
    rw [if_pos (by first | decide | omega), show i - n = m from by omega]
  · rw [if_neg c, h i]
    unfold layM
    by_cases d : n ≤ i ∧ i < n + m
    · rw [if_pos d, if_pos (by first | decide | omega)]
    · rw [if_neg d, if_neg (by first | decide | omega)]
theorem layM_4 (T : Int → Int) (n v i : Int) : layM T n v 4 i = layB T n v i := by
  unfold layM layB
  rcases (by omega : i = n + 3 ∨ i = n + 2 ∨ i = n + 1 ∨ i = n ∨ (i ≠ n + 3 ∧ i ≠ n + 2 ∧ i ≠ n + 1 ∧ i ≠ n)) with c | c | c | c | ⟨c3, c2, c1, c0⟩
  · rw [if_pos (by first | decide | omega), if_pos c, show i - n = 3 from by omega]
  · rw [if_pos (by first | decide | omega), if_neg (by first | decide | omega), if_pos c, show i - n = 2 from by omega]
  · rw [if_pos (by first | decide | omega), if_neg (by first | decide | omega), if_neg (by first | decide | omega), if_pos c, show i - n = 1 from by omega]
  · rw [if_pos (by first | decide | omega), if_neg (by first | decide | omega), if_neg (by first | decide | omega), if_neg (by first | decide | omega), if_pos c, show i - n = 0 from by omega]
  · rw [if_neg (by first | decide | omega), if_neg c3, if_neg c2, if_neg c1, if_neg c0]
