section RU3
variable {E : En} {M : Mk} {as : List Vl} {d mc ms : Nat} {Y : Option Vl → Sg → Gh → Prop} {X : Xp} {cs ss : Nat} {S : Sg} {G : Gh} {P : Cod} {pc tgt idx : Nat} {st : List Vl} {lo : Lo} {x y off a L : Int}
theorem r_peekR (hX : Cl E M as d mc ms Y X) {j : Nat} {l h : Int} (hT : Tl L j (2, l, h)) (hS : S a = L) (k : ∀ v : Int, v = G L a j → S v = l → X cs ss pc st lo S G) : X cs ss pc st lo S G := r_peek hX hT hS (fun o => k _ rfl o.1)
theorem r_peekN (hX : Cl E M as d mc ms Y X) {j : Nat} {l h : Int} (hT : Tl L j (3, l, h)) (hS : S a = L) (k : ∀ v : Int, v = G L a j → (v = -1 ∨ S v = l) → X cs ss pc st lo S G) : X cs ss pc st lo S G := r_peek hX hT hS (fun o => k _ rfl (o.imp id And.left))
theorem nul_lab {v l : Int} (h : v = -1 ∨ S v = l) (h0 : 0 ≤ v) : S v = l := h.resolve_left (by first | decide | omega)
theorem rfit {x : Int} (t : Nat) (ht : 2 ≤ t) : tv (t, x) = tv (2, x) := by
  match t, ht with
  | t + 2, _ => rfl
/-- a reference may be stored to a field of a reference type -/
theorem reffit {ty : FieldType} (hn : ∀ v : Value, narrow ty v = v) (hf : fits ty .null = true ∧ ∀ a : Nat, fits ty (.ref a) = true) {t : Nat} (ht : 2 ≤ t) (x : Int) : narrow ty (tv (t, x)) = tv (t, x) ∧ fits ty (tv (t, x)) = true := by
  refine ⟨hn _, ?_⟩
  rw [rfit t ht]
  by_cases h : x < 0
  · rw [tv2n h]; exact hf.1
  · rw [tv2 (by first | decide | omega)]; exact hf.2 _
theorem r_putNK (hX : Cl E M as d mc ms Y X) (hP : Dec M.2.1 P) (hf : fd P pc = some (.putfield idx, 3)) {j : Nat} {l h v : Int} (hF : Fp M.1.cls idx L j (3, l, h)) (hS : S a = L) (hl : l ≠ 0) (hv : v = -1 ∨ S v = l) (k : v = up G L a j v L a j → X cs ss (pc + 3) st lo S (up G L a j v)) : X cs ss pc ((2, v) :: (2, a) :: st) lo S G :=
  r_eq hX (st' := (3, v) :: (2, a) :: st) rfl rfl (r_put hX hP hf hF hS (hv.imp id (fun q => ⟨q, hl⟩)) (k (up_self _ _ _ _ _).symm))
theorem r_nn (hX : Cl E M as d mc ms Y X) (hS : S a = L) (hL : L ≠ 0) (k : 0 ≤ a → X cs ss pc st lo S G) : X cs ss pc st lo S G := by
  obtain ⟨p, e, z, m, below, meth, c, hx, hb, hr, hml, hown, hlk, hnm, hts, hK, rfl⟩ := hX
  intro H locs ls hR hz hL' hl
  exact k (rep_at hR hS hL).1 H locs ls hR hz hL' hl
end RU3
def uql (L : Int) : Bool := L == 128 || L == 129 || L == 130 || L == 131 || L == 132 || L == 154 || L == 155 || L == 156 || L == 157 || L == 158 || L == 159
def UQ (E : En) (S : Sg) (G : Gh) : Prop := ∀ a b : Int, S a = S b → uql (S a) = true → a = b
def CL0 (E : En) (S : Sg) (G : Gh) : Prop := ∀ l : Int, S l = 154 → (G 154 l 1 = Ad E 0 ∧ G 154 l 2 = 0) ∨ (S (G 154 l 1) = 160 ∧ G 154 l 2 ≤ 10 ∧ ∀ i : Int, 0 ≤ i → i < G 154 l 2 → S (G 160 (G 154 l 1) i) = 139) ∨ (S (G 154 l 1) = 161 ∧ G 154 l 2 ≤ 15 ∧ ∀ i : Int, 0 ≤ i → i < G 154 l 2 → S (G 161 (G 154 l 1) i) = 139) ∨ (S (G 154 l 1) = 162 ∧ G 154 l 2 ≤ 22 ∧ ∀ i : Int, 0 ≤ i → i < G 154 l 2 → S (G 162 (G 154 l 1) i) = 139) ∨ (S (G 154 l 1) = 163 ∧ G 154 l 2 ≤ 33 ∧ ∀ i : Int, 0 ≤ i → i < G 154 l 2 → S (G 163 (G 154 l 1) i) = 139) ∨ (S (G 154 l 1) = 164 ∧ G 154 l 2 ≤ 49 ∧ ∀ i : Int, 0 ≤ i → i < G 154 l 2 → S (G 164 (G 154 l 1) i) = 139)
def CL1 (E : En) (S : Sg) (G : Gh) : Prop := ∀ l : Int, S l = 155 → (G 155 l 1 = Ad E 0 ∧ G 155 l 2 = 0) ∨ (S (G 155 l 1) = 165 ∧ G 155 l 2 ≤ 10 ∧ ∀ i : Int, 0 ≤ i → i < G 155 l 2 → S (G 165 (G 155 l 1) i) = 140) ∨ (S (G 155 l 1) = 166 ∧ G 155 l 2 ≤ 15 ∧ ∀ i : Int, 0 ≤ i → i < G 155 l 2 → S (G 166 (G 155 l 1) i) = 140) ∨ (S (G 155 l 1) = 167 ∧ G 155 l 2 ≤ 22 ∧ ∀ i : Int, 0 ≤ i → i < G 155 l 2 → S (G 167 (G 155 l 1) i) = 140) ∨ (S (G 155 l 1) = 168 ∧ G 155 l 2 ≤ 33 ∧ ∀ i : Int, 0 ≤ i → i < G 155 l 2 → S (G 168 (G 155 l 1) i) = 140) ∨ (S (G 155 l 1) = 169 ∧ G 155 l 2 ≤ 49 ∧ ∀ i : Int, 0 ≤ i → i < G 155 l 2 → S (G 169 (G 155 l 1) i) = 140)
def CL2 (E : En) (S : Sg) (G : Gh) : Prop := ∀ l : Int, S l = 156 → (G 156 l 1 = Ad E 0 ∧ G 156 l 2 = 0) ∨ (S (G 156 l 1) = 170 ∧ G 156 l 2 ≤ 10 ∧ ∀ i : Int, 0 ≤ i → i < G 156 l 2 → S (G 170 (G 156 l 1) i) = 137) ∨ (S (G 156 l 1) = 171 ∧ G 156 l 2 ≤ 15 ∧ ∀ i : Int, 0 ≤ i → i < G 156 l 2 → S (G 171 (G 156 l 1) i) = 137) ∨ (S (G 156 l 1) = 172 ∧ G 156 l 2 ≤ 22 ∧ ∀ i : Int, 0 ≤ i → i < G 156 l 2 → S (G 172 (G 156 l 1) i) = 137)
def CL3 (E : En) (S : Sg) (G : Gh) : Prop := ∀ l : Int, S l = 157 → (G 157 l 1 = Ad E 0 ∧ G 157 l 2 = 0) ∨ (S (G 157 l 1) = 173 ∧ G 157 l 2 ≤ 10 ∧ ∀ i : Int, 0 ≤ i → i < G 157 l 2 → S (G 173 (G 157 l 1) i) = 138) ∨ (S (G 157 l 1) = 174 ∧ G 157 l 2 ≤ 15 ∧ ∀ i : Int, 0 ≤ i → i < G 157 l 2 → S (G 174 (G 157 l 1) i) = 138) ∨ (S (G 157 l 1) = 175 ∧ G 157 l 2 ≤ 22 ∧ ∀ i : Int, 0 ≤ i → i < G 157 l 2 → S (G 175 (G 157 l 1) i) = 138) ∨ (S (G 157 l 1) = 176 ∧ G 157 l 2 ≤ 33 ∧ ∀ i : Int, 0 ≤ i → i < G 157 l 2 → S (G 176 (G 157 l 1) i) = 138) ∨ (S (G 157 l 1) = 177 ∧ G 157 l 2 ≤ 49 ∧ ∀ i : Int, 0 ≤ i → i < G 157 l 2 → S (G 177 (G 157 l 1) i) = 138) ∨ (S (G 157 l 1) = 178 ∧ G 157 l 2 ≤ 73 ∧ ∀ i : Int, 0 ≤ i → i < G 157 l 2 → S (G 178 (G 157 l 1) i) = 138)
def CL4 (E : En) (S : Sg) (G : Gh) : Prop := ∀ l : Int, S l = 158 → (G 158 l 1 = Ad E 0 ∧ G 158 l 2 = 0) ∨ (S (G 158 l 1) = 179 ∧ G 158 l 2 ≤ 10 ∧ ∀ i : Int, 0 ≤ i → i < G 158 l 2 → S (G 179 (G 158 l 1) i) = 141)
def CL5 (E : En) (S : Sg) (G : Gh) : Prop := ∀ l : Int, S l = 159 → (G 159 l 1 = Ad E 0 ∧ G 159 l 2 = 0) ∨ (S (G 159 l 1) = 180 ∧ G 159 l 2 ≤ 10 ∧ ∀ i : Int, 0 ≤ i → i < G 159 l 2 → S (G 180 (G 159 l 1) i) = 141) ∨ (S (G 159 l 1) = 181 ∧ G 159 l 2 ≤ 15 ∧ ∀ i : Int, 0 ≤ i → i < G 159 l 2 → S (G 181 (G 159 l 1) i) = 141) ∨ (S (G 159 l 1) = 182 ∧ G 159 l 2 ≤ 22 ∧ ∀ i : Int, 0 ≤ i → i < G 159 l 2 → S (G 182 (G 159 l 1) i) = 141) ∨ (S (G 159 l 1) = 183 ∧ G 159 l 2 ≤ 33 ∧ ∀ i : Int, 0 ≤ i → i < G 159 l 2 → S (G 183 (G 159 l 1) i) = 141) ∨ (S (G 159 l 1) = 184 ∧ G 159 l 2 ≤ 49 ∧ ∀ i : Int, 0 ≤ i → i < G 159 l 2 → S (G 184 (G 159 l 1) i) = 141) ∨ (S (G 159 l 1) = 185 ∧ G 159 l 2 ≤ 73 ∧ ∀ i : Int, 0 ≤ i → i < G 159 l 2 → S (G 185 (G 159 l 1) i) = 141)
def CT (E : En) (S : Sg) (G : Gh) : Prop := ∀ t : Int, S t = 136 → ∀ i : Int, 0 ≤ i → i < 30 → (G 120 (G 136 t 3) i = 0 ∨ G 120 (G 136 t 3) i = 4) → 0 ≤ G 121 (G 136 t 5) i ∧ G 121 (G 136 t 5) i ≤ 19
def CTI (E : En) (S : Sg) (G : Gh) : Prop := ∀ t u : Int, S t = 136 → S u = 136 → (G 136 t 3 = G 136 u 3 ∨ G 136 t 5 = G 136 u 5) → t = u
def CP (E : En) (S : Sg) (G : Gh) : Prop := ∀ p l : Int, S p = 138 → S l = 156 → G 138 p 2 < G 156 l 2
/-- what holds of the class between calls -/
def CI (E : En) (S : Sg) (G : Gh) : Prop := UQ E S G ∧ CL0 E S G ∧ CL1 E S G ∧ CL2 E S G ∧ CL3 E S G ∧ CL4 E S G ∧ CL5 E S G ∧ CT E S G ∧ CTI E S G ∧ CP E S G
set_option maxRecDepth 100000 in
set_option maxHeartbeats 4000000 in
theorem ci_keep {E : En} {S : Sg} {G G' : Gh} (h : CI E S G) (h120 : ∀ a j : Int, G' 120 a j = G 120 a j) (h121 : ∀ a j : Int, G' 121 a j = G 121 a j) (h136_3 : ∀ a : Int, G' 136 a 3 = G 136 a 3) (h136_5 : ∀ a : Int, G' 136 a 5 = G 136 a 5) (h138_2 : ∀ a : Int, G' 138 a 2 = G 138 a 2) (h154_1 : ∀ a : Int, G' 154 a 1 = G 154 a 1) (h154_2 : ∀ a : Int, G' 154 a 2 = G 154 a 2) (h155_1 : ∀ a : Int, G' 155 a 1 = G 155 a 1) (h155_2 : ∀ a : Int, G' 155 a 2 = G 155 a 2) (h156_1 : ∀ a : Int, G' 156 a 1 = G 156 a 1) (h156_2 : ∀ a : Int, G' 156 a 2 = G 156 a 2) (h157_1 : ∀ a : Int, G' 157 a 1 = G 157 a 1) (h157_2 : ∀ a : Int, G' 157 a 2 = G 157 a 2) (h158_1 : ∀ a : Int, G' 158 a 1 = G 158 a 1) (h158_2 : ∀ a : Int, G' 158 a 2 = G 158 a 2) (h159_1 : ∀ a : Int, G' 159 a 1 = G 159 a 1) (h159_2 : ∀ a : Int, G' 159 a 2 = G 159 a 2) (h160 : ∀ a j : Int, G' 160 a j = G 160 a j) (h161 : ∀ a j : Int, G' 161 a j = G 161 a j) (h162 : ∀ a j : Int, G' 162 a j = G 162 a j) (h163 : ∀ a j : Int, G' 163 a j = G 163 a j) (h164 : ∀ a j : Int, G' 164 a j = G 164 a j) (h165 : ∀ a j : Int, G' 165 a j = G 165 a j) (h166 : ∀ a j : Int, G' 166 a j = G 166 a j) (h167 : ∀ a j : Int, G' 167 a j = G 167 a j) (h168 : ∀ a j : Int, G' 168 a j = G 168 a j) (h169 : ∀ a j : Int, G' 169 a j = G 169 a j) (h170 : ∀ a j : Int, G' 170 a j = G 170 a j) (h171 : ∀ a j : Int, G' 171 a j = G 171 a j) (h172 : ∀ a j : Int, G' 172 a j = G 172 a j) (h173 : ∀ a j : Int, G' 173 a j = G 173 a j) (h174 : ∀ a j : Int, G' 174 a j = G 174 a j) (h175 : ∀ a j : Int, G' 175 a j = G 175 a j) (h176 : ∀ a j : Int, G' 176 a j = G 176 a j) (h177 : ∀ a j : Int, G' 177 a j = G 177 a j) (h178 : ∀ a j : Int, G' 178 a j = G 178 a j) (h179 : ∀ a j : Int, G' 179 a j = G 179 a j) (h180 : ∀ a j : Int, G' 180 a j = G 180 a j) (h181 : ∀ a j : Int, G' 181 a j = G 181 a j) (h182 : ∀ a j : Int, G' 182 a j = G 182 a j) (h183 : ∀ a j : Int, G' 183 a j = G 183 a j) (h184 : ∀ a j : Int, G' 184 a j = G 184 a j) (h185 : ∀ a j : Int, G' 185 a j = G 185 a j) : CI E S G' := by
  unfold CI UQ CL0 CL1 CL2 CL3 CL4 CL5 CT CTI CP at *
  simp only [h120, h121, h136_3, h136_5, h138_2, h154_1, h154_2, h155_1, h155_2, h156_1, h156_2, h157_1, h157_2, h158_1, h158_2, h159_1, h159_2, h160, h161, h162, h163, h164, h165, h166, h167, h168, h169, h170, h171, h172, h173, h174, h175, h176, h177, h178, h179, h180, h181, h182, h183, h184, h185]
  exact h
def cif : List (Int × Int) := [(120, -1), (121, -1), (136, 3), (136, 5), (138, 2), (154, 1), (154, 2), (155, 1), (155, 2), (156, 1), (156, 2), (157, 1), (157, 2), (158, 1), (158, 2), (159, 1), (159, 2), (160, -1), (161, -1), (162, -1), (163, -1), (164, -1), (165, -1), (166, -1), (167, -1), (168, -1), (169, -1), (170, -1), (171, -1), (172, -1), (173, -1), (174, -1), (175, -1), (176, -1), (177, -1), (178, -1), (179, -1), (180, -1), (181, -1), (182, -1), (183, -1), (184, -1), (185, -1)]
def djn (ws : List (Int × Int)) : Bool := cif.all (fun q => ws.all (fun p => !(p.1 == q.1 && (p.2 == -1 || q.2 == -1 || p.2 == q.2))))
theorem djn_out {ws : List (Int × Int)} (h : djn ws = true) {q : Int × Int} (hq : q ∈ cif) {j : Int} (hj : q.2 = -1 ∨ q.2 = j) : inm ws q.1 j = false := by
  cases e : inm ws q.1 j with
  | false => rfl
  | true =>
    exfalso
    obtain ⟨p, hp, e1, e2⟩ := inm_iff.mp e
    have h1 := List.all_eq_true.mp (List.all_eq_true.mp h q hq) p hp
    simp only [Bool.not_eq_true', Bool.and_eq_false_iff, Bool.or_eq_false_iff, beq_eq_false_iff_ne, ne_eq] at h1
    rcases h1 with h1 | h1
    · exact h1 e1
    · rcases e2 with e2 | e2
      · exact h1.1.1 e2
      · rcases hj with hj | hj
        · exact h1.1.2 hj
        · exact h1.2 (e2.trans hj.symm)
theorem ci_hw {E : En} {S : Sg} {G G1 : Gh} {ws : List (Int × Int)} (h : CI E S G) (c : djn ws = true) : CI E S (hw ws G G1) := ci_keep h (fun a j => hw_out (djn_out c (q := (120, -1)) (by decide) (Or.inl rfl))) (fun a j => hw_out (djn_out c (q := (121, -1)) (by decide) (Or.inl rfl))) (fun a => hw_out (djn_out c (q := (136, 3)) (by decide) (Or.inr rfl))) (fun a => hw_out (djn_out c (q := (136, 5)) (by decide) (Or.inr rfl))) (fun a => hw_out (djn_out c (q := (138, 2)) (by decide) (Or.inr rfl))) (fun a => hw_out (djn_out c (q := (154, 1)) (by decide) (Or.inr rfl))) (fun a => hw_out (djn_out c (q := (154, 2)) (by decide) (Or.inr rfl))) (fun a => hw_out (djn_out c (q := (155, 1)) (by decide) (Or.inr rfl))) (fun a => hw_out (djn_out c (q := (155, 2)) (by decide) (Or.inr rfl))) (fun a => hw_out (djn_out c (q := (156, 1)) (by decide) (Or.inr rfl))) (fun a => hw_out (djn_out c (q := (156, 2)) (by decide) (Or.inr rfl))) (fun a => hw_out (djn_out c (q := (157, 1)) (by decide) (Or.inr rfl))) (fun a => hw_out (djn_out c (q := (157, 2)) (by decide) (Or.inr rfl))) (fun a => hw_out (djn_out c (q := (158, 1)) (by decide) (Or.inr rfl))) (fun a => hw_out (djn_out c (q := (158, 2)) (by decide) (Or.inr rfl))) (fun a => hw_out (djn_out c (q := (159, 1)) (by decide) (Or.inr rfl))) (fun a => hw_out (djn_out c (q := (159, 2)) (by decide) (Or.inr rfl))) (fun a j => hw_out (djn_out c (q := (160, -1)) (by decide) (Or.inl rfl))) (fun a j => hw_out (djn_out c (q := (161, -1)) (by decide) (Or.inl rfl))) (fun a j => hw_out (djn_out c (q := (162, -1)) (by decide) (Or.inl rfl))) (fun a j => hw_out (djn_out c (q := (163, -1)) (by decide) (Or.inl rfl))) (fun a j => hw_out (djn_out c (q := (164, -1)) (by decide) (Or.inl rfl))) (fun a j => hw_out (djn_out c (q := (165, -1)) (by decide) (Or.inl rfl))) (fun a j => hw_out (djn_out c (q := (166, -1)) (by decide) (Or.inl rfl))) (fun a j => hw_out (djn_out c (q := (167, -1)) (by decide) (Or.inl rfl))) (fun a j => hw_out (djn_out c (q := (168, -1)) (by decide) (Or.inl rfl))) (fun a j => hw_out (djn_out c (q := (169, -1)) (by decide) (Or.inl rfl))) (fun a j => hw_out (djn_out c (q := (170, -1)) (by decide) (Or.inl rfl))) (fun a j => hw_out (djn_out c (q := (171, -1)) (by decide) (Or.inl rfl))) (fun a j => hw_out (djn_out c (q := (172, -1)) (by decide) (Or.inl rfl))) (fun a j => hw_out (djn_out c (q := (173, -1)) (by decide) (Or.inl rfl))) (fun a j => hw_out (djn_out c (q := (174, -1)) (by decide) (Or.inl rfl))) (fun a j => hw_out (djn_out c (q := (175, -1)) (by decide) (Or.inl rfl))) (fun a j => hw_out (djn_out c (q := (176, -1)) (by decide) (Or.inl rfl))) (fun a j => hw_out (djn_out c (q := (177, -1)) (by decide) (Or.inl rfl))) (fun a j => hw_out (djn_out c (q := (178, -1)) (by decide) (Or.inl rfl))) (fun a j => hw_out (djn_out c (q := (179, -1)) (by decide) (Or.inl rfl))) (fun a j => hw_out (djn_out c (q := (180, -1)) (by decide) (Or.inl rfl))) (fun a j => hw_out (djn_out c (q := (181, -1)) (by decide) (Or.inl rfl))) (fun a j => hw_out (djn_out c (q := (182, -1)) (by decide) (Or.inl rfl))) (fun a j => hw_out (djn_out c (q := (183, -1)) (by decide) (Or.inl rfl))) (fun a j => hw_out (djn_out c (q := (184, -1)) (by decide) (Or.inl rfl))) (fun a j => hw_out (djn_out c (q := (185, -1)) (by decide) (Or.inl rfl)))
theorem up_hw (G : Gh) (L a j v : Int) : up G L a j v = hw [(L, j)] G (up G L a j v) := by
  refine hw_up (hw_refl _ _) ?_
  simp [inm]
theorem ci_up {E : En} {S : Sg} {G : Gh} {L a j v : Int} (h : CI E S G) (c : djn [(L, j)] = true) : CI E S (up G L a j v) := by
  rw [up_hw]
  exact ci_hw h c
theorem ci_uq {E : En} {S : Sg} {G : Gh} {a b L : Int} (h : CI E S G) (h1 : S a = L) (h2 : S b = L) (hL : uql L = true) : a = b := h.1 a b (h1.trans h2.symm) (by rw [h1]; exact hL)
theorem ci_tq {E : En} {S : Sg} {G : Gh} {t ka qa i kv x : Int} (h : CI E S G) (ht : S t = 136) (hk : ka = G 136 t 3) (hq : qa = G 136 t 5) (hkv : kv = G 120 ka i) (hx : x = G 121 qa i) (i0 : 0 ≤ i) (i1 : i < 30) (hc : kv = 0 ∨ kv = 4) : 0 ≤ x ∧ x ≤ 19 := by
  subst hk hq hkv hx
  exact h.2.2.2.2.2.2.2.1 t ht i i0 i1 hc
theorem ci_pk {E : En} {S : Sg} {G : Gh} {p l x y : Int} (h : CI E S G) (hp : S p = 138) (hl : S l = 156) (hx : x = G 138 p 2) (hy : y = G 156 l 2) : x < y := by
  subst hx hy
  exact h.2.2.2.2.2.2.2.2.2 p l hp hl
theorem ci_L0 {E : En} {S : Sg} {G : Gh} {l e sz i : Int} (h : CI E S G) (hl : S l = 154) (he : e = G 154 l 1) (hz : sz = G 154 l 2) (i0 : 0 ≤ i) (i1 : i < sz) : (S e = 160 ∧ i < 10 ∧ S (G 160 e i) = 139) ∨ (S e = 161 ∧ i < 15 ∧ S (G 161 e i) = 139) ∨ (S e = 162 ∧ i < 22 ∧ S (G 162 e i) = 139) ∨ (S e = 163 ∧ i < 33 ∧ S (G 163 e i) = 139) ∨ (S e = 164 ∧ i < 49 ∧ S (G 164 e i) = 139) := by
  subst he hz
  rcases h.2.1 l hl with ⟨-, q⟩ | ⟨q1, q2, q3⟩ | ⟨q1, q2, q3⟩ | ⟨q1, q2, q3⟩ | ⟨q1, q2, q3⟩ | ⟨q1, q2, q3⟩
  · exfalso; omega
  · exact Or.inl (⟨q1, by omega, q3 i i0 i1⟩)
  · exact Or.inr (Or.inl (⟨q1, by omega, q3 i i0 i1⟩))
  · exact Or.inr (Or.inr (Or.inl (⟨q1, by omega, q3 i i0 i1⟩)))
  · exact Or.inr (Or.inr (Or.inr (Or.inl (⟨q1, by omega, q3 i i0 i1⟩))))
  · exact Or.inr (Or.inr (Or.inr (Or.inr (⟨q1, by omega, q3 i i0 i1⟩))))
theorem ci_L1 {E : En} {S : Sg} {G : Gh} {l e sz i : Int} (h : CI E S G) (hl : S l = 155) (he : e = G 155 l 1) (hz : sz = G 155 l 2) (i0 : 0 ≤ i) (i1 : i < sz) : (S e = 165 ∧ i < 10 ∧ S (G 165 e i) = 140) ∨ (S e = 166 ∧ i < 15 ∧ S (G 166 e i) = 140) ∨ (S e = 167 ∧ i < 22 ∧ S (G 167 e i) = 140) ∨ (S e = 168 ∧ i < 33 ∧ S (G 168 e i) = 140) ∨ (S e = 169 ∧ i < 49 ∧ S (G 169 e i) = 140) := by
  subst he hz
  rcases h.2.2.1 l hl with ⟨-, q⟩ | ⟨q1, q2, q3⟩ | ⟨q1, q2, q3⟩ | ⟨q1, q2, q3⟩ | ⟨q1, q2, q3⟩ | ⟨q1, q2, q3⟩
  · exfalso; omega
  · exact Or.inl (⟨q1, by omega, q3 i i0 i1⟩)
  · exact Or.inr (Or.inl (⟨q1, by omega, q3 i i0 i1⟩))
  · exact Or.inr (Or.inr (Or.inl (⟨q1, by omega, q3 i i0 i1⟩)))
  · exact Or.inr (Or.inr (Or.inr (Or.inl (⟨q1, by omega, q3 i i0 i1⟩))))
  · exact Or.inr (Or.inr (Or.inr (Or.inr (⟨q1, by omega, q3 i i0 i1⟩))))
theorem ci_L2 {E : En} {S : Sg} {G : Gh} {l e sz i : Int} (h : CI E S G) (hl : S l = 156) (he : e = G 156 l 1) (hz : sz = G 156 l 2) (i0 : 0 ≤ i) (i1 : i < sz) : (S e = 170 ∧ i < 10 ∧ S (G 170 e i) = 137) ∨ (S e = 171 ∧ i < 15 ∧ S (G 171 e i) = 137) ∨ (S e = 172 ∧ i < 22 ∧ S (G 172 e i) = 137) := by
  subst he hz
  rcases h.2.2.2.1 l hl with ⟨-, q⟩ | ⟨q1, q2, q3⟩ | ⟨q1, q2, q3⟩ | ⟨q1, q2, q3⟩
  · exfalso; omega
  · exact Or.inl (⟨q1, by omega, q3 i i0 i1⟩)
  · exact Or.inr (Or.inl (⟨q1, by omega, q3 i i0 i1⟩))
  · exact Or.inr (Or.inr (⟨q1, by omega, q3 i i0 i1⟩))
theorem ci_L3 {E : En} {S : Sg} {G : Gh} {l e sz i : Int} (h : CI E S G) (hl : S l = 157) (he : e = G 157 l 1) (hz : sz = G 157 l 2) (i0 : 0 ≤ i) (i1 : i < sz) : (S e = 173 ∧ i < 10 ∧ S (G 173 e i) = 138) ∨ (S e = 174 ∧ i < 15 ∧ S (G 174 e i) = 138) ∨ (S e = 175 ∧ i < 22 ∧ S (G 175 e i) = 138) ∨ (S e = 176 ∧ i < 33 ∧ S (G 176 e i) = 138) ∨ (S e = 177 ∧ i < 49 ∧ S (G 177 e i) = 138) ∨ (S e = 178 ∧ i < 73 ∧ S (G 178 e i) = 138) := by
  subst he hz
  rcases h.2.2.2.2.1 l hl with ⟨-, q⟩ | ⟨q1, q2, q3⟩ | ⟨q1, q2, q3⟩ | ⟨q1, q2, q3⟩ | ⟨q1, q2, q3⟩ | ⟨q1, q2, q3⟩ | ⟨q1, q2, q3⟩
  · exfalso; omega
  · exact Or.inl (⟨q1, by omega, q3 i i0 i1⟩)
  · exact Or.inr (Or.inl (⟨q1, by omega, q3 i i0 i1⟩))
  · exact Or.inr (Or.inr (Or.inl (⟨q1, by omega, q3 i i0 i1⟩)))
  · exact Or.inr (Or.inr (Or.inr (Or.inl (⟨q1, by omega, q3 i i0 i1⟩))))
  · exact Or.inr (Or.inr (Or.inr (Or.inr (Or.inl (⟨q1, by omega, q3 i i0 i1⟩)))))
  · exact Or.inr (Or.inr (Or.inr (Or.inr (Or.inr (⟨q1, by omega, q3 i i0 i1⟩)))))
theorem ci_L4 {E : En} {S : Sg} {G : Gh} {l e sz i : Int} (h : CI E S G) (hl : S l = 158) (he : e = G 158 l 1) (hz : sz = G 158 l 2) (i0 : 0 ≤ i) (i1 : i < sz) : (S e = 179 ∧ i < 10 ∧ S (G 179 e i) = 141) := by
  subst he hz
  rcases h.2.2.2.2.2.1 l hl with ⟨-, q⟩ | ⟨q1, q2, q3⟩
  · exfalso; omega
  · exact ⟨q1, by omega, q3 i i0 i1⟩
theorem ci_L5 {E : En} {S : Sg} {G : Gh} {l e sz i : Int} (h : CI E S G) (hl : S l = 159) (he : e = G 159 l 1) (hz : sz = G 159 l 2) (i0 : 0 ≤ i) (i1 : i < sz) : (S e = 180 ∧ i < 10 ∧ S (G 180 e i) = 141) ∨ (S e = 181 ∧ i < 15 ∧ S (G 181 e i) = 141) ∨ (S e = 182 ∧ i < 22 ∧ S (G 182 e i) = 141) ∨ (S e = 183 ∧ i < 33 ∧ S (G 183 e i) = 141) ∨ (S e = 184 ∧ i < 49 ∧ S (G 184 e i) = 141) ∨ (S e = 185 ∧ i < 73 ∧ S (G 185 e i) = 141) := by
  subst he hz
  rcases h.2.2.2.2.2.2.1 l hl with ⟨-, q⟩ | ⟨q1, q2, q3⟩ | ⟨q1, q2, q3⟩ | ⟨q1, q2, q3⟩ | ⟨q1, q2, q3⟩ | ⟨q1, q2, q3⟩ | ⟨q1, q2, q3⟩
  · exfalso; omega
  · exact Or.inl (⟨q1, by omega, q3 i i0 i1⟩)
  · exact Or.inr (Or.inl (⟨q1, by omega, q3 i i0 i1⟩))
  · exact Or.inr (Or.inr (Or.inl (⟨q1, by omega, q3 i i0 i1⟩)))
  · exact Or.inr (Or.inr (Or.inr (Or.inl (⟨q1, by omega, q3 i i0 i1⟩))))
  · exact Or.inr (Or.inr (Or.inr (Or.inr (Or.inl (⟨q1, by omega, q3 i i0 i1⟩)))))
  · exact Or.inr (Or.inr (Or.inr (Or.inr (Or.inr (⟨q1, by omega, q3 i i0 i1⟩)))))
theorem cf_Jx4a65c : Cf 0 3 := ⟨RJx4a65c, TJx4a65c, tyJx4a65c, rfl, tbs [294, 290, 292] (by decide +kernel), tyJx4a65c_ok, nmJx4a65c⟩
theorem cf_X0 : Cf 1 18 := ⟨RX0, TX0, tyX0, rfl, tbs [232, 234, 236, 238, 240, 242, 244, 246, 248, 250, 252, 254, 256, 258, 260, 262, 264, 266] (by decide +kernel), tyX0_ok, nmX0⟩
theorem cf_X1 : Cf 2 9 := ⟨RX1, TX1, tyX1, rfl, tbs [690, 692, 676, 678, 680, 682, 684, 686, 688] (by decide +kernel), tyX1_ok, nmX1⟩
theorem cf_X2 : Cf 3 7 := ⟨RX2, TX2, tyX2, rfl, tbs [1095, 1096, 1085, 1087, 1089, 1091, 1093] (by decide +kernel), tyX2_ok, nmX2⟩
theorem cf_X3 : Cf 4 17 := ⟨RX3, TX3, tyX3, rfl, tbs [1410, 1412, 1414, 1416, 1418, 1420, 1422, 1424, 1426, 1428, 1430, 1432, 1434, 1436, 1438, 1440, 1442] (by decide +kernel), tyX3_ok, nmX3⟩
theorem cf_X4 : Cf 5 6 := ⟨RX4, TX4, tyX4, rfl, tbs [397, 399, 401, 403, 405, 407] (by decide +kernel), tyX4_ok, nmX4⟩
theorem cf_X5 : Cf 6 6 := ⟨RX5, TX5, tyX5, rfl, tbs [1154, 1155, 1146, 1148, 1150, 1152] (by decide +kernel), tyX5_ok, nmX5⟩
theorem cf_X6 : Cf 7 17 := ⟨RX6, TX6, tyX6, rfl, tbs [436, 438, 440, 442, 444, 446, 448, 450, 452, 454, 456, 458, 460, 462, 464, 466, 468] (by decide +kernel), tyX6_ok, nmX6⟩
theorem cf_X7 : Cf 8 17 := ⟨RX7, TX7, tyX7, rfl, tbs [498, 500, 502, 504, 506, 508, 510, 512, 514, 516, 518, 520, 522, 524, 526, 528, 530] (by decide +kernel), tyX7_ok, nmX7⟩
theorem cf_X8 : Cf 9 20 := ⟨RX8, TX8, tyX8, rfl, tbs [339, 341, 343, 345, 347, 349, 351, 353, 355, 357, 359, 361, 363, 365, 367, 369, 371, 373, 375, 377] (by decide +kernel), tyX8_ok, nmX8⟩
theorem cf_X9 : Cf 10 16 := ⟨RX9, TX9, tyX9, rfl, tbs [856, 858, 860, 862, 864, 866, 868, 870, 872, 874, 876, 878, 880, 882, 884, 886] (by decide +kernel), tyX9_ok, nmX9⟩
theorem cf_X11 : Cf 11 20 := ⟨RX11, TX11, tyX11, rfl, tbs [554, 556, 558, 560, 562, 564, 566, 568, 570, 572, 574, 576, 578, 580, 582, 584, 586, 588, 590, 592] (by decide +kernel), tyX11_ok, nmX11⟩
