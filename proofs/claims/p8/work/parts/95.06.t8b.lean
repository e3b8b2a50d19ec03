/-! what a block leaves of the blocks about it -/
def KP (s t : Rg) : Prop := t 8 = s 8 ∧ (s 8 ≤ 0 ∨ (t 10 = s 10 ∧ t 4 = s 4)) ∧ (s 8 ≤ 1 ∨ t 11 = s 11) ∧ (s 8 ≤ 2 ∨ t 12 = s 12) ∧ s 9 ≤ t 9
theorem kp_refl (s : Rg) : KP s s := ⟨rfl, Or.inr ⟨rfl, rfl⟩, Or.inr rfl, Or.inr rfl, Int.le_refl _⟩
theorem kp_8 {s t : Rg} (h : KP s t) : t 8 = s 8 := h.1
theorem kp_9 {s t : Rg} (h : KP s t) : s 9 ≤ t 9 := h.2.2.2.2
theorem kp_tr {s t u : Rg} (h : KP s t) (k : KP t u) : KP s u := by
  unfold KP at *
  omega
theorem kp_cong {s t u : Rg} (h : KP s t) (e8 : u 8 = t 8) (e10 : u 10 = t 10) (e11 : u 11 = t 11) (e12 : u 12 = t 12) (e4 : u 4 = t 4) (e9 : t 9 ≤ u 9) : KP s u := by
  unfold KP at *
  omega
theorem chc_kp {s t : Rg} {c : Int} (h : KP s t) (k : (c = -1 ∧ pRw s = 3) ∨ (0 ≤ c ∧ pRw s = c)) : (c = -1 ∧ pRw t = 3) ∨ (0 ≤ c ∧ pRw t = c) := by
  have a := pRw_or s
  have b := pRw_or t
  unfold KP at h
  omega
section BLK2
variable (T : Tp) (n : Int)
theorem pu_chc {s q : Rg} {o c : Int} (h : KP s q) (h0 : 0 ≤ s 8) (h8 : s 8 < 3) (ho : o ≠ -1) (k : (c = -1 ∧ pRw s = 3) ∨ (0 ≤ c ∧ pRw s = c)) : pPu T n o q 1 ≠ 0 ∨ ((c = -1 ∧ pRw (pPu T n o q) = 3) ∨ (0 ≤ c ∧ pRw (pPu T n o q) = c)) := by
  have q8 : q 8 < 3 := by rw [kp_8 h]; exact h8
  rcases pPu_or T n o q q8 with d | ⟨d1, d2, d3, d4, d5, d6, d7, d8⟩
  · exact Or.inl d
  · right
    have a := pRw_or s
    have b := pRw_or (pPu T n o q)
    unfold KP at h
    clear d5 d6 d8
    omega
theorem pu_all {s : Rg} {o c w : Int} (h8 : s 8 = w) (h9 : 0 ≤ s 9) (w2 : w ≤ 2) (h : pPu T n o s 1 ≠ 0 ∨ ((c = -1 ∧ pRw (pPu T n o s) = 3) ∨ (0 ≤ c ∧ pRw (pPu T n o s) = c))) : pPu T n o s 1 ≠ 0 ∨ (pPu T n o s 8 = w + 1 ∧ 0 ≤ pPu T n o s 9 ∧ ((c = -1 ∧ pRw (pPu T n o s) = 3) ∨ (0 ≤ c ∧ pRw (pPu T n o s) = c))) := by
  rcases h with h | h
  · exact Or.inl h
  · rcases pPu_or T n o s (by first | decide | omega) with d | ⟨d1, d2, d3, d4, d5, d6, d7, d8⟩
    · exact Or.inl d
    · exact Or.inr ⟨by omega, by omega, h⟩
def BRF (p t : Rg) : Prop := t 1 ≠ 0 ∨ (tkK T n (t 0) = 125 ∧ KP p t ∧ pSg T n 125 t = pAv T n t)
theorem br_of {p t : Rg} (h : t 1 ≠ 0 ∨ (p 1 = 0 ∧ KP p t ∧ tkK T n (t 0) = 125)) : BRF T n p t := by
  by_cases q : t 1 = 0
  · rcases h with h | ⟨-, h2, h3⟩
    · exact absurd q h
    · exact Or.inr ⟨h3, h2, sg_av T n q h3⟩
  · exact Or.inl q
theorem br_bad {p t : Rg} (h : BRF T n p t) (k : pSg T n 125 t 1 ≠ 0) : t 1 ≠ 0 := by
  rcases h with h | ⟨-, -, h3⟩
  · exact h
  · rw [h3] at k
    exact k
theorem br_ok {p t : Rg} (h : BRF T n p t) (k : pSg T n 125 t 1 = 0) : t 1 = 0 ∧ tkK T n (t 0) = 125 ∧ KP p t ∧ pSg T n 125 t = pAv T n t := by
  have q := pSg_m T n k
  rcases h with h | ⟨h1, h2, h3⟩
  · exact absurd q h
  · exact ⟨q, h1, h2, h3⟩
/-- a block's end: what it stood for, and how it leaves the blocks about it -/
theorem bk_ce {s q t : Rg} {o : Int} {kq : Nat} (hk : KP s q) (h0 : 0 ≤ s 8) (h8 : s 8 < 3) (et : t = pIt T n kq (pPu T n o q)) (h1 : t 1 = 0) (hp : KP (pPu T n o q) t) : 0 < t 8 ∧ n3 t 10 (t 8 - 1) = o ∧ KP s (ud t 8 (t 8 - 1)) := by
  have hq : pPu T n o q 1 = 0 := Classical.byContradiction fun w => by
    rw [pIt_id T n w] at et
    rw [et] at h1
    exact w h1
  have q8 : q 8 < 3 := by rw [kp_8 hk]; exact h8
  rcases pPu_or T n o q q8 with d | ⟨d1, d2, d3, d4, d5, d6, d7, d8⟩
  · exact absurd hq d
  have e8 := kp_8 hp
  have f8 := kp_8 hk
  have g8 : (ud t 8 (t 8 - 1)) 8 = t 8 - 1 := rfl
  have g10 : (ud t 8 (t 8 - 1)) 10 = t 10 := rfl
  have g11 : (ud t 8 (t 8 - 1)) 11 = t 11 := rfl
  have g12 : (ud t 8 (t 8 - 1)) 12 = t 12 := rfl
  have g4 : (ud t 8 (t 8 - 1)) 4 = t 4 := rfl
  have g9 : (ud t 8 (t 8 - 1)) 9 = t 9 := rfl
  have x := n3_10 t (t 8 - 1)
  unfold KP at *
  obtain ⟨-, p10, p11, p12, p9⟩ := hp
  obtain ⟨-, k10, k11, k12, k9⟩ := hk
  refine ⟨by omega, ?_, by omega, ?_, ?_, ?_, by omega⟩
  · rcases (by omega : s 8 = 0 ∨ s 8 = 1 ∨ s 8 = 2) with c | c | c
    · have y : n3 t 10 (t 8 - 1) = t 10 := by omega
      omega
    · have y : n3 t 10 (t 8 - 1) = t 11 := by omega
      omega
    · have y : n3 t 10 (t 8 - 1) = t 12 := by omega
      omega
  · omega
  · omega
  · omega
theorem kp_av {s t : Rg} (h : KP s t) : KP s (pAv T n t) := kp_cong h rfl rfl rfl rfl rfl (Int.le_refl _)
theorem kp_b {s t : Rg} {v : Int} (h : KP (pAv T n (ud s 3 v)) t) : KP s t := h
theorem wh_kp (s : Rg) : KP s (pSt (pNb T n 0 9999999 (pCo T n (pKd T n 15 s)))) := by
  have a : ∀ j : Int, 3 ≤ j → (pNb T n 0 9999999 (pCo T n (pKd T n 15 s))) j = s j := fun j hj => by rw [pNb_hi T n _ hj, pCo_hi T n hj, pKd_hi T n _ hj]
  have b := st_9 (pNb T n 0 9999999 (pCo T n (pKd T n 15 s)))
  rw [a 9 (by decide)] at b
  exact kp_cong (kp_refl s) ((st_hi (by decide)).trans (a 8 (by decide))) ((st_hi (by decide)).trans (a 10 (by decide))) ((st_hi (by decide)).trans (a 11 (by decide))) ((st_hi (by decide)).trans (a 12 (by decide))) ((st_hi (by decide)).trans (a 4 (by decide))) b
theorem pl_kp {s : Rg} {k : Int} (h : s 1 = 0) (k6 : k ≠ 6) (k7 : k ≠ 7) : KP s (pKi T n k (pAv T n (ud s 3 (s 3 + 1)))) := by
  have a : ∀ j : Int, (j = 8 ∨ j = 10 ∨ j = 11 ∨ j = 12 ∨ j = 4) → pKi T n k (pAv T n (ud s 3 (s 3 + 1))) j = (pAv T n (ud s 3 (s 3 + 1))) j := fun j hj => ki_kp T n (k := k) (b := pAv T n (ud s 3 (s 3 + 1))) (show s 1 = 0 from h) k6 k7 hj
  have b := ki_9 T n (k := k) (b := pAv T n (ud s 3 (s 3 + 1))) k6 k7
  exact kp_cong (kp_refl s) (a 8 (by decide)) (a 10 (by decide)) (a 11 (by decide)) (a 12 (by decide)) (a 4 (by decide)) b
theorem ch_kp {s : Rg} (h8 : s 8 = 0) : KP s (pAv T n (pNw T n (pNa T n s))) := by
  have e8 : pAv T n (pNw T n (pNa T n s)) 8 = s 8 := pNa_hi T n s (show (3 : Int) ≤ 8 from by decide)
  have e9 : pAv T n (pNw T n (pNa T n s)) 9 = s 9 := pNa_hi T n s (show (3 : Int) ≤ 9 from by decide)
  unfold KP
  omega
theorem ch_chc {q : Rg} {c : Int} (h8 : q 8 = 0) (hc : q 1 ≠ 0 ∨ (0 ≤ c ∧ q 4 = c + 1)) : pPu T n (-1) q 1 ≠ 0 ∨ ((c = -1 ∧ pRw (pPu T n (-1) q) = 3) ∨ (0 ≤ c ∧ pRw (pPu T n (-1) q) = c)) := by
  rcases pPu_or T n (-1) q (by first | decide | omega) with d | ⟨d1, d2, d3, d4, d5, d6, d7, d8⟩
  · exact Or.inl d
  · right
    have b := pRw_or (pPu T n (-1) q)
    omega
variable {E : En} {G : Gh}
theorem wh_end2 {s q t X : Rg} {o : Int} {K kq : Nat} (hT : pIt T n K X = t) (et : t = pIt T n kq (pPu T n o q)) (hk : KP s q) (h0 : 0 ≤ s 8) (h8 : s 8 < 3) (h1 : t 1 = 0) (e1 : tkK T n (t 0) = 125) (kp : KP (pPu T n o q) t) (odd : o = -1 ∨ Int.tmod o 2 ≠ 0 ∨ wq T n (pAv T n t 0) 0 ≠ 1) (rd : RdM E T n (pAv T n t) G) : ∃ kq : Nat, RdM E T n (pIt T n kq X) G ∧ (pIt T n kq X 1 ≠ 0 ∨ KP s (pIt T n kq X)) := by
  obtain ⟨b1, b2, b3⟩ := bk_ce T n hk h0 h8 et h1 kp
  have a4 := ce_no T n h1 e1 b1 b2 odd
  have a5 : pIt T n (K + 1) X = pAv T n (ud t 8 (t 8 - 1)) := by rw [pIt_add, pIt_one, hT, a4]
  refine ⟨K + 1, rm_cast (rm_eqr rd (eqr_8 T n t (t 8 - 1))) a5.symm, Or.inr ?_⟩
  rw [a5]
  exact kp_av T n b3
theorem wh_end {s q t X : Rg} {o : Int} {K kq : Nat} (hT : pIt T n K X = t) (et : t = pIt T n kq (pPu T n o q)) (hk : KP s q) (h0 : 0 ≤ s 8) (h8 : s 8 < 3) (c : BRF T n (pPu T n o q) t) (odd : o = -1 ∨ Int.tmod o 2 ≠ 0 ∨ wq T n (pAv T n t 0) 0 ≠ 1) (rd : RdM E T n (pSg T n 125 t) G) : ∃ kq : Nat, RdM E T n (pIt T n kq X) G ∧ (pIt T n kq X 1 ≠ 0 ∨ KP s (pIt T n kq X)) := by
  by_cases h1 : t 1 = 0
  · rcases c with c | ⟨c1, c2, c3⟩
    · exact absurd h1 c
    · exact wh_end2 T n hT et hk h0 h8 h1 c1 c2 odd (rm_cast rd c3)
  · exact ⟨K, rm_cast rd ((pSg_id T n h1).trans hT.symm), Or.inl (by rw [hT]; exact h1)⟩
end BLK2
theorem raf_0 (s : Rg) : s 1 ≠ 0 ∨ (s 1 = 0 ∧ KP s s) := (Decidable.em (s 1 = 0)).elim (fun h => Or.inr ⟨h, kp_refl s⟩) Or.inl
/-! what is wrong with a clause, fault by fault -/
def faA (s : Rg) : Int := if 30 ≤ s 3 ∨ 3 ≤ s 8 then 3 else 0
def faB (k : Int) (s : Rg) : Int := if faA s = 0 then (if k = 8 ∧ s 5 ≠ -1 then 5 else 0) else faA s
def faC (k : Int) (s : Rg) : Int := if faB k s = 0 then (if (k = 7 ∨ k = 8) ∧ 0 < s 8 then 6 else 0) else faB k s
def faD (k c : Int) (s : Rg) : Int := if faC k s = 0 then (if k = 9 ∧ (c < 0 ∨ s 8 ≠ 1 ∨ n3 s 40 c ≠ -1) then 6 else 0) else faC k s
def faE (k c : Int) (s : Rg) : Int := if faD k c s = 0 then (if k = 1 ∧ ((c < 0 ∧ s 6 ≠ 0) ∨ (0 ≤ c ∧ s 7 ≠ 0)) then 6 else 0) else faD k c s
theorem ifw_or {P : Prop} [Decidable P] {a v w : Int} (e : w = if a = 0 then (if P then v else 0) else a) : (a ≠ 0 ∧ w = a) ∨ (a = 0 ∧ P ∧ w = v) ∨ (a = 0 ∧ ¬ P ∧ w = 0) := by
  subst e
  by_cases h : a = 0
  · rw [if_pos h]
    by_cases p : P
    · rw [if_pos p]
      exact Or.inr (Or.inl ⟨h, p, rfl⟩)
    · rw [if_neg p]
      exact Or.inr (Or.inr ⟨h, p, rfl⟩)
  · rw [if_neg h]
    exact Or.inl ⟨h, rfl⟩
theorem faA_or (s : Rg) : ((30 ≤ s 3 ∨ 3 ≤ s 8) ∧ faA s = 3) ∨ (¬ (30 ≤ s 3 ∨ 3 ≤ s 8) ∧ faA s = 0) := by
  unfold faA
  by_cases p : 30 ≤ s 3 ∨ 3 ≤ s 8
  · rw [if_pos p]
    exact Or.inl ⟨p, rfl⟩
  · rw [if_neg p]
    exact Or.inr ⟨p, rfl⟩
theorem faB_or (k : Int) (s : Rg) : (faA s ≠ 0 ∧ faB k s = faA s) ∨ (faA s = 0 ∧ (k = 8 ∧ s 5 ≠ -1) ∧ faB k s = 5) ∨ (faA s = 0 ∧ ¬ (k = 8 ∧ s 5 ≠ -1) ∧ faB k s = 0) := ifw_or rfl
theorem faC_or (k : Int) (s : Rg) : (faB k s ≠ 0 ∧ faC k s = faB k s) ∨ (faB k s = 0 ∧ ((k = 7 ∨ k = 8) ∧ 0 < s 8) ∧ faC k s = 6) ∨ (faB k s = 0 ∧ ¬ ((k = 7 ∨ k = 8) ∧ 0 < s 8) ∧ faC k s = 0) := ifw_or rfl
theorem faD_or (k c : Int) (s : Rg) : (faC k s ≠ 0 ∧ faD k c s = faC k s) ∨ (faC k s = 0 ∧ (k = 9 ∧ (c < 0 ∨ s 8 ≠ 1 ∨ n3 s 40 c ≠ -1)) ∧ faD k c s = 6) ∨ (faC k s = 0 ∧ ¬ (k = 9 ∧ (c < 0 ∨ s 8 ≠ 1 ∨ n3 s 40 c ≠ -1)) ∧ faD k c s = 0) := ifw_or rfl
theorem faE_or (k c : Int) (s : Rg) : (faD k c s ≠ 0 ∧ faE k c s = faD k c s) ∨ (faD k c s = 0 ∧ (k = 1 ∧ ((c < 0 ∧ s 6 ≠ 0) ∨ (0 ≤ c ∧ s 7 ≠ 0))) ∧ faE k c s = 6) ∨ (faD k c s = 0 ∧ ¬ (k = 1 ∧ ((c < 0 ∧ s 6 ≠ 0) ∨ (0 ≤ c ∧ s 7 ≠ 0))) ∧ faE k c s = 0) := ifw_or rfl
/-- no fault -/
theorem faE_0 {k c : Int} {s : Rg} (h : faE k c s = 0) : s 3 < 30 ∧ s 8 < 3 ∧ (k ≠ 8 ∨ s 5 = -1) ∧ ((k ≠ 7 ∧ k ≠ 8) ∨ s 8 ≤ 0) ∧ (k ≠ 9 ∨ (0 ≤ c ∧ s 8 = 1 ∧ n3 s 40 c = -1)) ∧ (k ≠ 1 ∨ (c < 0 ∧ s 6 = 0) ∨ (0 ≤ c ∧ s 7 = 0)) := by
  have d0 : faD k c s = 0 ∧ ¬ (k = 1 ∧ ((c < 0 ∧ s 6 ≠ 0) ∨ (0 ≤ c ∧ s 7 ≠ 0))) := by
    have := faE_or k c s
    omega
  have c0 : faC k s = 0 ∧ ¬ (k = 9 ∧ (c < 0 ∨ s 8 ≠ 1 ∨ n3 s 40 c ≠ -1)) := by
    have := faD_or k c s
    omega
  have b0 : faB k s = 0 ∧ ¬ ((k = 7 ∨ k = 8) ∧ 0 < s 8) := by
    have := faC_or k s
    omega
  have a0 : faA s = 0 ∧ ¬ (k = 8 ∧ s 5 ≠ -1) := by
    have := faB_or k s
    omega
  have z0 : ¬ (30 ≤ s 3 ∨ 3 ≤ s 8) := by
    have := faA_or s
    omega
  refine ⟨by omega, by omega, by omega, by omega, by omega, by omega⟩
/-- the same as the steps have it -/
theorem wf_faE {k c : Int} {s : Rg} (hk : 0 ≤ k) (c2 : c ≤ 2) (hc : (c = -1 ∧ pRw s = 3) ∨ (0 ≤ c ∧ pRw s = c)) : pWf k s = faE k c s := by
  have hA := faA_or s
  have hB := faB_or k s
  have hC := faC_or k s
  have hD := faD_or k c s
  have hE := faE_or k c s
  unfold pWf
  rw [if_neg (by first | decide | omega)]
  by_cases h1 : 30 ≤ s 3 ∨ 3 ≤ s 8
  · have a : faA s = 3 := by omega
    have b : faB k s = 3 := by omega
    have d : faC k s = 3 := by omega
    have e : faD k c s = 3 := by omega
    have f : faE k c s = 3 := by omega
    rw [f]
    by_cases h3 : 30 ≤ s 3
    · rw [if_pos h3]
    · rw [if_neg h3, if_pos (by first | decide | omega)]
  · rw [if_neg (by first | decide | omega), if_neg (by first | decide | omega)]
    have a : faA s = 0 := by omega
    clear hA
    by_cases h2 : k = 8
    · rw [if_pos h2]
      by_cases h5 : s 5 = -1
      · rw [if_pos h5]
        have b : faB k s = 0 := by omega
        clear hB
        unfold pMi
        rw [if_neg (show ¬ k = 7 from by omega), if_pos h2]
        by_cases h8 : 0 < s 8
        · have d : faC k s = 6 := by omega
          have e : faD k c s = 6 := by omega
          have f : faE k c s = 6 := by omega
          rw [if_pos h8, f]
          rfl
        · have d : faC k s = 0 := by omega
          have e : faD k c s = 0 := by omega
          have f : faE k c s = 0 := by omega
          rw [if_neg h8, f]
          rfl
      · have b : faB k s = 5 := by omega
        have d : faC k s = 5 := by omega
        have e : faD k c s = 5 := by omega
        have f : faE k c s = 5 := by omega
        rw [if_neg h5, f]
    · rw [if_neg h2]
      have b : faB k s = 0 := by omega
      clear hB
      unfold pMi
      by_cases h7 : k = 7
      · rw [if_pos h7]
        by_cases h8 : 0 < s 8
        · have d : faC k s = 6 := by omega
          have e : faD k c s = 6 := by omega
          have f : faE k c s = 6 := by omega
          rw [if_pos h8, f]
          rfl
        · have d : faC k s = 0 := by omega
          have e : faD k c s = 0 := by omega
          have f : faE k c s = 0 := by omega
          rw [if_neg h8, f]
          rfl
      · rw [if_neg h7, if_neg h2]
        have d : faC k s = 0 := by omega
        clear hC
        by_cases h9 : k = 9
        · rw [if_pos h9]
          by_cases h8 : s 8 = 1
          · rw [if_pos h8]
            rcases hc with ⟨c1, c3⟩ | ⟨c1, c3⟩
            · have e : faD k c s = 6 := by omega
              have f : faE k c s = 6 := by omega
              rw [if_pos c3, f]
              rfl
            · rw [if_neg (show ¬ pRw s = 3 from by omega), c3]
              by_cases hn : n3 s 40 c = -1
              · have e : faD k c s = 0 := by omega
                have f : faE k c s = 0 := by omega
                rw [if_pos hn, f]
                rfl
              · have e : faD k c s = 6 := by omega
                have f : faE k c s = 6 := by omega
                rw [if_neg hn, f]
                rfl
          · have e : faD k c s = 6 := by omega
            have f : faE k c s = 6 := by omega
            rw [if_neg h8, f]
            rfl
        · rw [if_neg h9]
          have e : faD k c s = 0 := by omega
          clear hD
          by_cases hk1 : k = 1
          · rw [if_pos hk1]
            rcases hc with ⟨c1, c3⟩ | ⟨c1, c3⟩
            · rw [if_pos c3]
              by_cases h6 : s 6 = 0
              · have f : faE k c s = 0 := by omega
                rw [if_pos h6, f]
                rfl
              · have f : faE k c s = 6 := by omega
                rw [if_neg h6, f]
                rfl
            · rw [if_neg (show ¬ pRw s = 3 from by omega)]
              by_cases h6 : s 7 = 0
              · have f : faE k c s = 0 := by omega
                rw [if_pos h6, f]
                rfl
              · have f : faE k c s = 6 := by omega
                rw [if_neg h6, f]
                rfl
          · have f : faE k c s = 0 := by omega
            rw [if_neg hk1, f]
            rfl
