/-! a flaw's place comes with the flaw -/
def Z2 (s t : Rg) : Prop := t 1 = 0 → s 1 = 0 ∧ t 2 = s 2
section Z2S
variable {T : Tp} {n : Int} {s t u : Rg}
theorem z2_0 (e1 : t 1 = s 1) (e2 : t 2 = s 2) : Z2 s t := fun h => ⟨e1.symm.trans h, e2⟩
theorem z2_rf : Z2 s s := fun h => ⟨h, rfl⟩
theorem z2_tr (h : Z2 s t) (k : Z2 t u) : Z2 s u := fun a => by
  obtain ⟨k1, k2⟩ := k a
  obtain ⟨h1, h2⟩ := h k1
  exact ⟨h1, k2.trans h2⟩
theorem z2_fl {w : Int} (hw : w ≠ 0) : Z2 s (pFl T n w s) := by
  unfold pFl
  by_cases c : s 1 = 0
  · rw [if_pos c]
    exact fun h => absurd h hw
  · rw [if_neg c]
    exact z2_rf
theorem z2_av : Z2 s (pAv T n s) := z2_0 rfl rfl
theorem z2_if {c : Prop} [Decidable c] (h : Z2 s t) (k : Z2 s u) : Z2 s (if c then t else u) := by
  split
  · exact h
  · exact k
theorem z2_ex {w : Int} : Z2 s (pEx T n w s) := by
  unfold pEx
  exact z2_if (z2_if z2_rf (z2_fl (by split <;> decide))) z2_rf
theorem z2_sg {w : Int} : Z2 s (pSg T n w s) := by
  unfold pSg
  exact z2_if (z2_tr z2_ex z2_av) z2_ex
theorem z2_kd {k : Nat} : Z2 s (pKd T n k s) := by
  unfold pKd
  exact z2_if (z2_if (z2_tr z2_ex z2_av) (z2_tr z2_ex (z2_fl (by decide)))) z2_ex
theorem z2_nb {a b : Int} : Z2 s (pNb T n a b s) := by
  unfold pNb
  exact z2_if (z2_if (z2_tr z2_ex (z2_fl (by decide))) (z2_if (z2_tr z2_ex (z2_fl (by decide))) (z2_tr z2_ex z2_av))) z2_ex
theorem z2_st : Z2 s (pSt s) := z2_0 rfl rfl
theorem z2_pu {o : Int} : Z2 s (pPu T n o s) := by
  unfold pPu
  exact z2_if (z2_if (z2_tr z2_sg (z2_0 rfl rfl)) z2_sg) z2_sg
theorem z2_el {o : Int} : Z2 s (pEl T n o s) := by
  unfold pEl
  exact z2_if (z2_0 rfl rfl) (z2_if (z2_if (z2_tr z2_av z2_pu) (z2_0 rfl rfl)) (z2_0 rfl rfl))
theorem z2_wo : Z2 s (pWo T n s) := z2_tr z2_nb (z2_tr z2_kd (z2_tr z2_nb (z2_tr z2_sg z2_st)))
theorem z2_m1 {k : Int} : Z2 s (pM1 T n k s) := by
  unfold pM1
  exact z2_if z2_nb (z2_if z2_nb z2_nb)
theorem z2_m2 {k : Int} : Z2 s (pM2 T n k s) := by
  unfold pM2
  exact z2_if (z2_tr z2_kd z2_nb) (z2_0 rfl rfl)
theorem z2_m3 {k m : Int} : Z2 s (pM3 T n k m s) := z2_tr z2_kd z2_nb
theorem z2_rt {k : Int} : Z2 s (pRt T n k s) := z2_tr z2_m1 (z2_tr z2_m2 (z2_tr z2_m3 (z2_tr z2_sg (z2_tr z2_st (z2_0 rfl rfl)))))
theorem z2_fr : Z2 s (pFr T n s) := by
  unfold pFr
  refine z2_if (z2_tr z2_ex (z2_if ?_ (z2_if ?_ (z2_if ?_ (z2_if ?_ (z2_fl (by decide))))))) z2_ex
  · exact z2_tr z2_av (z2_tr z2_sg z2_st)
  · exact z2_tr z2_av (z2_tr z2_sg z2_st)
  · exact z2_tr z2_av (z2_tr z2_sg z2_st)
  · exact z2_tr z2_av (z2_tr z2_nb (z2_tr z2_sg z2_st))
theorem z2_co : Z2 s (pCo T n s) := by
  unfold pCo
  exact z2_if z2_sg (z2_if z2_sg z2_ex)
theorem z2_wh : Z2 s (pWh T n s) := z2_tr z2_kd (z2_tr z2_co (z2_tr z2_nb (z2_tr z2_st z2_pu)))
theorem z2_na : Z2 s (pNa T n s) := by
  unfold pNa
  exact z2_if (z2_if z2_ex (z2_tr z2_ex (z2_fl (by decide)))) z2_ex
theorem z2_ch : Z2 s (pCh T n s) := by
  unfold pCh
  exact z2_tr z2_na (z2_if (z2_if (z2_if (z2_tr (z2_0 rfl rfl : Z2 _ (pNw T n _)) (z2_tr z2_av z2_pu)) (z2_fl (by decide))) (z2_fl (by decide))) (z2_0 rfl rfl))
theorem z2_fa : Z2 s (pFa T n s) := by
  unfold pFa
  exact z2_tr z2_na (z2_if (z2_if (z2_fl (by decide)) (z2_tr (z2_0 rfl rfl : Z2 _ (ud _ 5 _)) (z2_tr z2_av z2_sg))) (z2_0 rfl rfl))
theorem z2_cu : Z2 s (pCu T n s) := by
  unfold pCu
  exact z2_tr z2_ex (z2_if (z2_if (z2_tr z2_av z2_nb) z2_kd) z2_kd)
theorem z2_ms : Z2 s (pMs T n s) := z2_tr z2_nb (z2_tr z2_cu (z2_tr z2_sg (z2_0 rfl rfl)))
theorem z2_ki {k : Int} : Z2 s (pKi T n k s) := by
  unfold pKi
  exact z2_if z2_wo (z2_if z2_fr (z2_if z2_wh (z2_if z2_ch (z2_if z2_fa (z2_if z2_ms z2_rt)))))
theorem z2_ce : Z2 s (pCe T n s) := by
  unfold pCe
  exact z2_tr (z2_tr (z2_0 rfl rfl : Z2 s (ud s 8 _)) z2_av) z2_el
theorem z2_cl : Z2 s (pCl T n s) := by
  unfold pCl
  refine z2_if ?_ z2_ex
  by_cases w : pWf (pCw T n (pEx T n 1 s 0)) (pEx T n 1 s) = 0
  · rw [if_pos w]
    exact z2_tr z2_ex (z2_tr (z2_0 rfl rfl : Z2 _ (ud _ 3 _)) (z2_tr z2_av z2_ki))
  · rw [if_neg w]
    exact z2_tr z2_ex (z2_fl w)
theorem z2_sp : Z2 s (pSp T n s) := by
  unfold pSp
  exact z2_if (z2_if (z2_if (z2_fl (by decide)) z2_rf) (z2_if (z2_if z2_ce z2_cl) z2_cl)) z2_rf
theorem z2_it (k : Nat) : ∀ s : Rg, Z2 s (pIt T n k s) := by
  induction k with
  | zero => exact fun s => z2_rf
  | succ k ih => exact fun s => z2_tr z2_sp (ih (pSp T n s))
theorem ev_two (T : Tp) (n : Int) (k : Nat) : pIt T n k (ud pS0 0 0) 1 ≠ 0 ∨ pIt T n k (ud pS0 0 0) 2 = -1 := by
  by_cases h : pIt T n k (ud pS0 0 0) 1 = 0
  · exact Or.inr ((z2_it k (ud pS0 0 0) h).2)
  · exact Or.inl h
theorem ev_fix (T : Tp) (n : Int) {s t : Rg} (h8 : s 8 = 0) (c : t 1 ≠ 0 ∨ (s 1 = 0 ∧ KP s t ∧ (((0 : Int) = 0 ∧ tkK T n (t 0) = 0) ∨ ((0 : Int) ≠ 0 ∧ tkK T n (t 0) = 125)))) : pSp T n t = t := by
  rcases c with c | ⟨-, k, c⟩
  · exact sp_bad c
  · have e8 := kp_8 k
    have c1 : tkK T n (t 0) = 0 := by omega
    unfold pSp
    by_cases h : t 1 = 0
    · rw [if_pos h, if_pos c1, if_neg (by first | decide | omega)]
    · rw [if_neg h]
end Z2S
theorem ev_rd0 {E : En} {T : Tp} {n : Int} {G : Gh} (tp : ∀ i : Int, 0 ≤ i → i < n → G 61 (Ad E 61) i % 256 = T i) (h0 : 0 ≤ n) (h4 : n ≤ 400) (e_textEnd : G 1 (Ad E 1) 77 = n) (e_bad : G 1 (Ad E 1) 80 = 0) (e_newMany : G 1 (Ad E 1) 88 = 0) (e_newChoices : G 1 (Ad E 1) 89 = 0) (e_newDefault : G 1 (Ad E 1) 90 = -1) (e_takesInside : G 1 (Ad E 1) 91 = 0) (e_takesOutside : G 1 (Ad E 1) 92 = 0) (e_behind : G 1 (Ad E 1) 84 = 0) : RdM0 E T n 0 pS0 G := rn_mk tp e_textEnd e_bad (Or.inl rfl) (Or.inr e_newMany) (Or.inr e_newChoices) (Or.inr e_newDefault) (Or.inr e_takesInside) (Or.inr e_takesOutside) (Or.inr (Or.inl (by decide))) (Or.inr (Or.inl (by decide))) (Or.inr (Or.inl (by decide))) (Or.inr (Or.inl (by decide))) (Or.inr (Or.inl (by decide))) (Or.inr (Or.inl (by decide))) (Or.inr (Or.inr rfl)) (Or.inr (Or.inr rfl)) (Or.inr (Or.inr rfl)) (fun k k0 k1 _ => absurd (show k < 0 from k1) (by first | decide | omega)) h4 (Or.inr ⟨by decide, by decide⟩) e_behind (Int.le_refl 0) h0
