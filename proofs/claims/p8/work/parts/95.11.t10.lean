/-! A TEXT'S STEPS END: each goes on behind at least one byte, or stays -/
def Mn (n : Int) (s t : Rg) : Prop := 0 ≤ s 0 → s 0 ≤ n → s 0 ≤ t 0 ∧ t 0 ≤ n
section MNS
variable {T : Tp} {n : Int} {s t u : Rg}
theorem mn_0 (e : t 0 = s 0) : Mn n s t := fun _ h => by rw [e]; exact ⟨Int.le_refl _, h⟩
theorem mn_tr (h : Mn n s t) (k : Mn n t u) : Mn n s u := fun a b => by
  obtain ⟨h1, h2⟩ := h a b
  obtain ⟨k1, k2⟩ := k (by first | decide | omega) h2
  exact ⟨by omega, k2⟩
theorem mn_if {c : Prop} [Decidable c] (h : Mn n s t) (k : Mn n s u) : Mn n s (if c then t else u) := by
  split
  · exact h
  · exact k
theorem mn_av : Mn n s (pAv T n s) := fun _ b => ⟨Int.le_trans (tkS_ge T n (s 0)) (tkE_ge T n (s 0)), tkE_le b⟩
theorem mn_fl {w : Int} : Mn n s (pFl T n w s) := mn_0 (pFl_0 T n w s)
theorem mn_ex {w : Int} : Mn n s (pEx T n w s) := mn_0 (pEx_0 T n w s)
theorem mn_sg {w : Int} : Mn n s (pSg T n w s) := by
  unfold pSg
  exact mn_if (mn_tr mn_ex mn_av) mn_ex
theorem mn_kd {k : Nat} : Mn n s (pKd T n k s) := by
  unfold pKd
  exact mn_if (mn_if (mn_tr mn_ex mn_av) (mn_tr mn_ex mn_fl)) mn_ex
theorem mn_nb {a b : Int} : Mn n s (pNb T n a b s) := by
  unfold pNb
  exact mn_if (mn_if (mn_tr mn_ex mn_fl) (mn_if (mn_tr mn_ex mn_fl) (mn_tr mn_ex mn_av))) mn_ex
theorem mn_st : Mn n s (pSt s) := mn_0 rfl
theorem mn_pu {o : Int} : Mn n s (pPu T n o s) := by
  unfold pPu
  exact mn_if (mn_if (mn_tr mn_sg (mn_0 rfl)) mn_sg) mn_sg
theorem mn_el {o : Int} : Mn n s (pEl T n o s) := by
  unfold pEl
  exact mn_if (mn_0 rfl) (mn_if (mn_if (mn_tr mn_av mn_pu) (mn_0 rfl)) (mn_0 rfl))
theorem mn_wo : Mn n s (pWo T n s) := mn_tr mn_nb (mn_tr mn_kd (mn_tr mn_nb (mn_tr mn_sg mn_st)))
theorem mn_m1 {k : Int} : Mn n s (pM1 T n k s) := by
  unfold pM1
  exact mn_if mn_nb (mn_if mn_nb mn_nb)
theorem mn_m2 {k : Int} : Mn n s (pM2 T n k s) := by
  unfold pM2
  exact mn_if (mn_tr mn_kd mn_nb) (mn_0 rfl)
theorem mn_m3 {k m : Int} : Mn n s (pM3 T n k m s) := mn_tr mn_kd mn_nb
theorem mn_rt {k : Int} : Mn n s (pRt T n k s) := mn_tr mn_m1 (mn_tr mn_m2 (mn_tr mn_m3 (mn_tr mn_sg (mn_tr mn_st (mn_0 rfl)))))
theorem mn_fr : Mn n s (pFr T n s) := by
  unfold pFr
  refine mn_if (mn_tr mn_ex (mn_if ?_ (mn_if ?_ (mn_if ?_ (mn_if ?_ mn_fl))))) mn_ex
  · exact mn_tr mn_av (mn_tr mn_sg mn_st)
  · exact mn_tr mn_av (mn_tr mn_sg mn_st)
  · exact mn_tr mn_av (mn_tr mn_sg mn_st)
  · exact mn_tr mn_av (mn_tr mn_nb (mn_tr mn_sg mn_st))
theorem mn_co : Mn n s (pCo T n s) := by
  unfold pCo
  exact mn_if mn_sg (mn_if mn_sg mn_ex)
theorem mn_wh : Mn n s (pWh T n s) := mn_tr mn_kd (mn_tr mn_co (mn_tr mn_nb (mn_tr mn_st mn_pu)))
theorem mn_na : Mn n s (pNa T n s) := by
  unfold pNa
  exact mn_if (mn_if mn_ex (mn_tr mn_ex mn_fl)) mn_ex
theorem mn_ch : Mn n s (pCh T n s) := by
  unfold pCh
  exact mn_tr mn_na (mn_if (mn_if (mn_if (mn_tr (mn_0 rfl : Mn n _ (pNw T n _)) (mn_tr mn_av mn_pu)) mn_fl) mn_fl) (mn_0 rfl))
theorem mn_fa : Mn n s (pFa T n s) := by
  unfold pFa
  exact mn_tr mn_na (mn_if (mn_if mn_fl (mn_tr (mn_0 rfl : Mn n _ (ud _ 5 _)) (mn_tr mn_av mn_sg))) (mn_0 rfl))
theorem mn_cu : Mn n s (pCu T n s) := by
  unfold pCu
  exact mn_tr mn_ex (mn_if (mn_if (mn_tr mn_av mn_nb) mn_kd) mn_kd)
theorem mn_ms : Mn n s (pMs T n s) := mn_tr mn_nb (mn_tr mn_cu (mn_tr mn_sg (mn_0 rfl)))
theorem mn_ki {k : Int} : Mn n s (pKi T n k s) := by
  unfold pKi
  exact mn_if mn_wo (mn_if mn_fr (mn_if mn_wh (mn_if mn_ch (mn_if mn_fa (mn_if mn_ms mn_rt)))))
theorem tkE_gp {s0 : Int} (h : tkK T n s0 ≠ 0) : s0 < tkE T n s0 := Int.lt_of_le_of_lt (tkS_ge T n s0) (tkE_gt h)
theorem sp_go (h0 : 0 ≤ s 0) (h1 : s 0 ≤ n) : pSp T n s = s ∨ pSp T n s 1 ≠ 0 ∨ (s 0 < pSp T n s 0 ∧ pSp T n s 0 ≤ n) := by
  by_cases hs : s 1 = 0
  · have hc : tkK T n (s 0) ≠ 0 → pCl T n s 1 ≠ 0 ∨ (s 0 < pCl T n s 0 ∧ pCl T n s 0 ≤ n) := fun hk => by
      unfold pCl
      split
      · rename_i he
        have e0 := pEx_0 T n 1 s
        split
        · right
          obtain ⟨k1, k2⟩ := @mn_ki T n (pAv T n (ud (pEx T n 1 s) 3 (s 3 + 1))) (pCw T n (pEx T n 1 s 0)) (by
            show 0 ≤ tkE T n (pEx T n 1 s 0)
            have := tkE_gp (s0 := pEx T n 1 s 0) (by rw [e0]; exact hk)
            omega) (tkE_le (T := T) (show pEx T n 1 s 0 ≤ n by omega))
          have k3 : s 0 < (pAv T n (ud (pEx T n 1 s) 3 (s 3 + 1))) 0 := by
            show s 0 < tkE T n (pEx T n 1 s 0)
            rw [e0]
            exact tkE_gp hk
          exact ⟨by omega, k2⟩
        · rename_i hw
          left
          rw [pFl_1 T n he]
          exact hw
      · rename_i he
        exact Or.inl he
    unfold pSp
    rw [if_pos hs]
    split
    · split
      · right; left
        rw [pFl_1 T n hs]
        decide
      · exact Or.inl rfl
    · rename_i hk
      split
      · rename_i h125
        split
        · right; right
          unfold pCe
          obtain ⟨k1, k2⟩ := @mn_el T n (pAv T n (ud s 8 (s 8 - 1))) (n3 s 10 (s 8 - 1)) (by
            show 0 ≤ tkE T n (s 0)
            have := tkE_gp hk
            omega) (tkE_le (T := T) h1)
          have k3 : s 0 < (pAv T n (ud s 8 (s 8 - 1))) 0 := tkE_gp hk
          exact ⟨by omega, k2⟩
        · exact Or.inr (hc hk)
      · exact Or.inr (hc hk)
  · exact Or.inl (if_neg hs)
theorem sp_bad (h : s 1 ≠ 0) : pSp T n s = s := if_neg h
theorem it_fix (h : pSp T n s = s) (k : Nat) : pIt T n k s = s := by
  induction k with
  | zero => rfl
  | succ k ih =>
    show pIt T n k (pSp T n s) = s
    rw [h, ih]
theorem it_go (h0 : 0 ≤ s 0) (h1 : s 0 ≤ n) (k : Nat) : pSp T n (pIt T n k s) = pIt T n k s ∨ (s 0 + k ≤ pIt T n k s 0 ∧ pIt T n k s 0 ≤ n) := by
  induction k with
  | zero => exact Or.inr ⟨by show s 0 + ((0 : Nat) : Int) ≤ s 0; omega, h1⟩
  | succ k ih =>
    have e : pIt T n (k + 1) s = pSp T n (pIt T n k s) := by rw [pIt_add]; rfl
    rw [e]
    rcases ih with ih | ⟨i1, i2⟩
    · rw [ih]
      exact Or.inl ih
    · rcases @sp_go T n (pIt T n k s) (by first | decide | omega) i2 with g | g | ⟨g1, g2⟩
      · rw [g]
        exact Or.inl g
      · exact Or.inl (sp_bad g)
      · exact Or.inr ⟨by omega, g2⟩
theorem it_end (h0 : s 0 = 0) (h1 : 0 ≤ n) (h4 : n ≤ 400) : pSp T n (pIt T n 401 s) = pIt T n 401 s := by
  rcases @it_go T n s (by first | decide | omega) (by first | decide | omega) 401 with g | ⟨g1, g2⟩
  · exact g
  · exfalso
    omega
/-- where the steps stay is where four hundred and one of them come -/
theorem it_eq {k : Nat} (h0 : s 0 = 0) (h1 : 0 ≤ n) (h4 : n ≤ 400) (h : pSp T n (pIt T n k s) = pIt T n k s) : pIt T n k s = pIt T n 401 s := by
  have e := it_end (T := T) h0 h1 h4
  have a : pIt T n (k + 401) s = pIt T n k s := by rw [pIt_add, it_fix h]
  have b : pIt T n (401 + k) s = pIt T n 401 s := by rw [pIt_add, it_fix e]
  rw [← a, ← b, Nat.add_comm]
end MNS
