section PLN
variable (T : Tp) (n : Int)
theorem tk_ne {k : Int} {s : Rg} (h : k ≠ 1) (j : Int) : pTk k s j = s j := by
  unfold pTk
  rw [if_neg h, if_neg h]
  by_cases h6 : j = 6
  · subst h6
    exact ud_at _ _ _
  · rw [ud_ne h6]
    by_cases h7 : j = 7
    · subst h7
      exact ud_at _ _ _
    · exact ud_ne h7
theorem pWr_ne {s : Rg} (h : s 1 = 0) (k : tkK T n (s 0) = 1) : pWr T n s = pFl T n 2 s := by
  unfold pWr
  rw [if_neg (by first | decide | omega)]
theorem qFr_hi {j : Int} (s : Rg) (h : 3 ≤ j) : qFr T n s j = s j := by
  unfold qFr
  split
  · exact pAv_hi T n s h
  split
  · exact pAv_hi T n s h
  split
  · exact pAv_hi T n s h
  · rw [pNb_hi T n _ h, pKd_hi T n _ h]
theorem pFr_hi {j : Int} (s : Rg) (h : 3 ≤ j) (h9 : j ≠ 9) : pFr T n s j = s j := by
  unfold pFr
  split
  · split
    · rw [st_hi h9, pSg_hi T n _ h, pAv_hi T n _ h, pEx_hi T n _ h]
    split
    · rw [st_hi h9, pSg_hi T n _ h, pAv_hi T n _ h, pEx_hi T n _ h]
    split
    · rw [st_hi h9, pSg_hi T n _ h, pAv_hi T n _ h, pEx_hi T n _ h]
    split
    · rw [st_hi h9, pSg_hi T n _ h, pNb_hi T n _ h, pAv_hi T n _ h, pEx_hi T n _ h]
    · rw [pFl_hi T n _ h, pEx_hi T n _ h]
  · exact pEx_hi T n s h
theorem ag_fr {r b : Rg} (h : Ag r b) (hb : b 1 = 0) : Ag (pSg T n 59 (qFr T n r)) (pFr T n b) := by
  have hr : r 1 = 0 := h.2.1.trans hb
  have c3 := wq_or T n (b 0) 3
  have c12 := wq_or T n (b 0) 12
  have c13 := wq_or T n (b 0) 13
  have c14 := wq_or T n (b 0) 14
  unfold qFr pFr
  rw [h.1, pEx_n, if_pos hb]
  by_cases k1 : tkK T n (b 0) = 1
  · rw [if_pos k1, if_pos hb]
    by_cases q12 : wq T n (b 0) 12 = 1
    · rw [if_pos q12, if_pos q12]
      exact (ag_sg T n (ag_av T n h)).trans (ag_st _).symm
    rw [if_neg q12, if_neg q12]
    by_cases q13 : wq T n (b 0) 13 = 1
    · rw [if_pos q13, if_pos q13]
      exact (ag_sg T n (ag_av T n h)).trans (ag_st _).symm
    rw [if_neg q13, if_neg q13]
    by_cases q14 : wq T n (b 0) 14 = 1
    · rw [if_pos q14, if_pos q14]
      exact (ag_sg T n (ag_av T n h)).trans (ag_st _).symm
    rw [if_neg q14, if_neg q14]
    rw [pKd_n, if_pos hr, h.1]
    by_cases q3 : wq T n (b 0) 3 = 1
    · rw [if_pos q3, if_pos q3]
      exact (ag_sg T n (ag_nb T n (ag_av T n h))).trans (ag_st _).symm
    · rw [if_neg q3, if_neg q3, pNb_id T n (pWr_1 T n hr), pSg_id T n (pWr_1 T n hr), ← pWr_ne T n hb k1]
      exact ag_wr T n h
  · rw [if_neg k1, if_neg (pWr_1 T n hb), if_neg (by first | decide | omega), if_neg (by first | decide | omega), if_neg (by first | decide | omega), pKd_n, if_pos hr, h.1, if_neg (by first | decide | omega), pNb_id T n (pWr_1 T n hr), pSg_id T n (pWr_1 T n hr)]
    exact ag_wr T n h
theorem nmF_cong {s t : Rg} (h0 : s 0 = t 0) (h4 : s 4 = t 4) (a : ∀ k : Int, n3 s 20 k = n3 t 20 k) (b : ∀ k : Int, n3 s 30 k = n3 t 30 k) (j : Nat) : ∀ k : Int, nmF T n s j k = nmF T n t j k := by
  induction j with
  | zero => exact fun _ => rfl
  | succ j ih =>
    intro k
    show (if k < s 4 then (if smr T (tkS T n (s 0)) (tkE T n (s 0)) (n3 s 20 k) (n3 s 30 k) = 1 then k else nmF T n s j (k + 1)) else -1) = (if k < t 4 then (if smr T (tkS T n (t 0)) (tkE T n (t 0)) (n3 t 20 k) (n3 t 30 k) = 1 then k else nmF T n t j (k + 1)) else -1)
    rw [h0, h4, a, b, ih]
theorem nm_cong {s t : Rg} (h : Ag s t) (g : Hi s t) (k : Int) : pNm T n s k = pNm T n t k := by
  unfold pNm
  rw [g 4 (by decide) (by decide)]
  exact nmF_cong T n h.1 (g 4 (by decide) (by decide)) (n3_cong (g 20 (by decide) (by decide)) (g 21 (by decide) (by decide)) (g 22 (by decide) (by decide))) (n3_cong (g 30 (by decide) (by decide)) (g 31 (by decide) (by decide)) (g 32 (by decide) (by decide))) _ k
theorem fa_eqr {r b : Rg} (h : Ag r b) (g : Hi r b) : Eqr (pSg T n 59 (qFa T n r)) (pFa T n b) := by
  have hA := ag_na T n h
  have hG : Hi (pNa T n r) (pNa T n b) := fun j h3 hj => by rw [pNa_hi T n _ h3, pNa_hi T n _ h3]; exact g j h3 hj
  have hN := nm_cong T n hA hG 0
  unfold qFa pFa
  rw [hA.2.1, hN]
  by_cases q : pNa T n b 1 = 0
  · rw [if_pos q, if_pos q]
    by_cases q2 : pNm T n (pNa T n b) 0 = -1
    · rw [if_pos q2, if_pos q2]
      have f1 : pFl T n 5 (pNa T n r) 1 ≠ 0 := by rw [pFl_1 T n (hA.2.1.trans q)]; decide
      rw [pSg_id T n f1]
      exact eqr_hi (ag_fl T n hA) (fun j h3 hj => by rw [pFl_hi T n _ h3, pFl_hi T n _ h3]; exact hG j h3 hj)
    · rw [if_neg q2, if_neg q2]
      refine eqr_hi (ag_sg T n (ag_av T n ((ag_ud (by decide)).trans (hA.trans (ag_ud (by decide)).symm)))) (fun j h3 hj => ?_)
      rw [pSg_hi T n _ h3, pAv_hi T n _ h3, pSg_hi T n _ h3, pAv_hi T n _ h3]
      by_cases e : j = 5
      · subst e
        rw [ud_at, ud_at]
      · rw [ud_ne e, ud_ne e]
        exact hG j h3 hj
  · rw [if_neg q, if_neg q, pSg_id T n (by rw [hA.2.1]; exact q)]
    exact eqr_hi hA hG
theorem rata_small {p : Int} (h : wq T n p 16 = 1) : wq T n p 17 = 0 := by
  rcases wq_or T n p 17 with c | c
  · rcases wq_or T n p 16 with d | d
    · have e16 : wL 16 = 5 := rfl
      have e17 : wL 17 = 4 := rfl
      omega
    · omega
  · exact c.2
theorem ag_cu {s t : Rg} (h : Ag s t) : Ag (pCu T n s) (qCu T n t) := by
  unfold pCu qCu
  rw [pEx_n]
  by_cases hs : s 1 = 0
  · have ht : t 1 = 0 := h.2.1.symm.trans hs
    rw [if_pos hs, if_pos ht]
    by_cases k1 : tkK T n (s 0) = 1
    · rw [if_pos k1, if_pos hs]
      by_cases q16 : wq T n (s 0) 16 = 1
      · have q17 := rata_small T n q16
        rw [if_pos q16, ← h.1, if_neg (by first | decide | omega), pKd_n, if_pos ht, ← h.1, if_pos q16]
        exact ag_nb T n (ag_av T n h)
      · rw [if_neg q16, pKd_n, if_pos hs, ← h.1]
        by_cases q17 : wq T n (s 0) 17 = 1
        · rw [if_pos q17, if_pos q17]
          exact ag_av T n h
        · rw [if_neg q17, if_neg q17, pKd_n, if_pos ht, ← h.1, if_neg q16, pNb_id T n (pWr_1 T n ht)]
          exact ag_wr T n h
    · have c16 := wq_or T n (s 0) 16
      have c17 := wq_or T n (s 0) 17
      rw [if_neg k1, if_neg (pWr_1 T n hs), pKd_id T n (pWr_1 T n hs), ← h.1, if_neg (by first | decide | omega), pKd_n, if_pos ht, ← h.1, if_neg (by first | decide | omega), pNb_id T n (pWr_1 T n ht)]
      exact ag_wr T n h
  · have ht : t 1 ≠ 0 := by rw [← h.2.1]; exact hs
    rw [if_neg hs, if_neg hs, if_neg ht, pKd_id T n hs, pKd_id T n ht, pNb_id T n ht]
    exact h
theorem pCu_hi {j : Int} (s : Rg) (h : 3 ≤ j) : pCu T n s j = s j := by
  unfold pCu
  split
  · split
    · rw [pNb_hi T n _ h, pAv_hi T n _ h, pEx_hi T n _ h]
    · rw [pKd_hi T n _ h, pEx_hi T n _ h]
  · rw [pKd_hi T n _ h, pEx_hi T n _ h]
theorem qCu_hi {j : Int} (s : Rg) (h : 3 ≤ j) : qCu T n s j = s j := by
  unfold qCu
  split
  · split
    · exact pAv_hi T n _ h
    · rw [pNb_hi T n _ h, pKd_hi T n _ h]
  · rw [pNb_hi T n _ h, pKd_hi T n _ h]
theorem qCu_m {s : Rg} (h : qCu T n s 1 = 0) : s 1 = 0 := by
  apply Classical.byContradiction
  intro q
  unfold qCu at h
  rw [if_neg q, pKd_id T n q, pNb_id T n q] at h
  exact q h
theorem ag_mo (r v : Int) (s : Rg) : Ag (pMo r v s) s := ((ag_ud (by decide)).trans (ag_ud (by decide))).trans (ag_ud (by decide))
theorem mo_hi {r v j : Int} {s : Rg} (h : j < 40) : pMo r v s j = s j := by
  unfold pMo
  rw [ud_ne (by first | decide | omega), ud_ne (by first | decide | omega), ud_ne (by first | decide | omega)]
theorem mo_40 (r v : Int) (s : Rg) : pMo r v s 40 = (if r = 0 then v else s 40) ∧ pMo r v s 41 = (if r = 1 then v else s 41) ∧ pMo r v s 42 = (if r = 2 then v else s 42) := ⟨rfl, rfl, rfl⟩
theorem ms_eqr {r b : Rg} (h : Ag r b) (g : Hi r b) : Eqr (pSg T n 59 (qMs T n (pRw b) r)) (pMs T n b) := by
  unfold qMs pMs
  have hN := ag_nb T n (lo := 0) (hi := 9999999) h
  have hG : ∀ j : Int, 3 ≤ j → (j ≤ 7 ∨ 13 ≤ j) → pSg T n 59 (qCu T n (pMo (pRw b) (tkV T n (r 0)) (pNb T n 0 9999999 r))) j = pMo (pRw b) (tkV T n (r 0)) (pNb T n 0 9999999 r) j := fun j h3 _ => by rw [pSg_hi T n _ h3, qCu_hi T n _ h3]
  have hA : Ag (pSg T n 59 (qCu T n (pMo (pRw b) (tkV T n (r 0)) (pNb T n 0 9999999 r)))) (pMo (pRw b) (pVm T n b) (pSg T n 59 (pCu T n (pNb T n 0 9999999 b)))) := (ag_sg T n (ag_cu T n (hN.symm.trans (ag_mo _ _ _).symm)).symm).trans (ag_mo _ _ _).symm
  have lo : ∀ j : Int, 3 ≤ j → (j ≤ 7 ∨ 13 ≤ j) → j < 40 → pSg T n 59 (qCu T n (pMo (pRw b) (tkV T n (r 0)) (pNb T n 0 9999999 r))) j = pMo (pRw b) (pVm T n b) (pSg T n 59 (pCu T n (pNb T n 0 9999999 b))) j := fun j h3 hj h40 => by
    rw [hG j h3 hj, mo_hi h40, mo_hi h40, pNb_hi T n _ h3, pSg_hi T n _ h3, pCu_hi T n _ h3, pNb_hi T n _ h3]
    exact g j h3 hj
  refine ⟨hA, ⟨lo 4 (by decide) (by decide) (by decide), lo 20 (by decide) (by decide) (by decide), lo 21 (by decide) (by decide) (by decide), lo 22 (by decide) (by decide) (by decide), lo 30 (by decide) (by decide) (by decide), lo 31 (by decide) (by decide) (by decide), lo 32 (by decide) (by decide) (by decide)⟩, fun q => ⟨lo 3 (by decide) (by decide) (by decide), lo 5 (by decide) (by decide) (by decide), lo 6 (by decide) (by decide) (by decide), lo 7 (by decide) (by decide) (by decide), ?_⟩⟩
  have q1 := qCu_m T n (pSg_m T n q)
  rw [(ag_mo _ _ _).2.1, hN.2.1] at q1
  have ev : pVm T n b = tkV T n (r 0) := by
    unfold pVm
    rw [if_pos q1, h.1]
  have hi40 : ∀ j : Int, 40 ≤ j → pNb T n 0 9999999 r j = pSg T n 59 (pCu T n (pNb T n 0 9999999 b)) j := fun j h40 => by
    rw [pNb_hi T n _ (by first | decide | omega), pSg_hi T n _ (by first | decide | omega), pCu_hi T n _ (by first | decide | omega), pNb_hi T n _ (by first | decide | omega)]
    exact g j (by first | decide | omega) (by first | decide | omega)
  rw [hG 40 (by decide) (by decide), hG 41 (by decide) (by decide), hG 42 (by decide) (by decide), (mo_40 _ _ _).1, (mo_40 _ _ _).2.1, (mo_40 _ _ _).2.2, (mo_40 _ _ _).1, (mo_40 _ _ _).2.1, (mo_40 _ _ _).2.2, ev, hi40 40 (by decide), hi40 41 (by decide), hi40 42 (by decide)]
  exact ⟨rfl, rfl, rfl⟩
/-- a plain clause: the reference's way and the other side's -/
theorem plain_eqr {k : Int} {r b : Rg} (h : Ag r b) (g : Hi r (pTk k b)) (hb : b 1 = 0) (k6 : k ≠ 6) (k7 : k ≠ 7) : Eqr (pSg T n 59 (qPl T n k (pRw b) r)) (pKi T n k b) := by
  unfold qPl pKi
  by_cases e4 : k = 4
  · rw [if_pos e4, if_pos e4]
    unfold pWo
    refine eqr_hi ((ag_sg T n (ag_nb T n (ag_kd T n (ag_nb T n h)))).trans (ag_st _).symm) (fun j h3 hj => ?_)
    rw [st_hi (by first | decide | omega), pSg_hi T n _ h3, pNb_hi T n _ h3, pKd_hi T n _ h3, pNb_hi T n _ h3, pSg_hi T n _ h3, pNb_hi T n _ h3, pKd_hi T n _ h3, pNb_hi T n _ h3, g j h3 hj, tk_ne (by first | decide | omega)]
  rw [if_neg e4, if_neg e4]
  by_cases e5 : k = 5
  · rw [if_pos e5, if_pos e5]
    refine eqr_hi (ag_fr T n h hb) (fun j h3 hj => ?_)
    rw [pSg_hi T n _ h3, qFr_hi T n _ h3, pFr_hi T n _ h3 (by first | decide | omega), g j h3 hj, tk_ne (by first | decide | omega)]
  rw [if_neg e5, if_neg e5, if_neg k6, if_neg k7]
  by_cases e8 : k = 8
  · rw [if_pos e8, if_pos e8]
    exact fa_eqr T n h (fun j h3 hj => by rw [g j h3 hj, tk_ne (by first | decide | omega)])
  rw [if_neg e8, if_neg e8]
  by_cases e9 : k = 9
  · rw [if_pos e9, if_pos e9]
    exact ms_eqr T n h (fun j h3 hj => by rw [g j h3 hj, tk_ne (by first | decide | omega)])
  rw [if_neg e9, if_neg e9]
  have e1 := pV1_ag T n (k := k) h
  unfold pRt qRt
  rw [e1]
  have hX : ∀ j : Int, 3 ≤ j → j ≠ 9 → pSt (pSg T n 59 (pM3 T n k (pV1 T n k b) (pM2 T n k (pM1 T n k b)))) j = b j := fun j h3 h9 => by
    unfold pM3
    rw [st_hi h9, pSg_hi T n _ h3, pNb_hi T n _ h3, pKd_hi T n _ h3, pM2_hi T n _ h3, pM1_hi T n _ h3]
  refine eqr_hi (((ag_sg T n (ag_m3 T n (ag_m2 T n (ag_m1 T n h)))).trans (ag_st _).symm).trans (ag_tk k _).symm) (fun j h3 hj => ?_)
  have hL : pSg T n 59 (pM3 T n k (pV1 T n k b) (pM2 T n k (pM1 T n k r))) j = r j := by
    unfold pM3
    rw [pSg_hi T n _ h3, pNb_hi T n _ h3, pKd_hi T n _ h3, pM2_hi T n _ h3, pM1_hi T n _ h3]
  rw [hL, g j h3 hj]
  obtain ⟨t6, t7⟩ := tk_67 (k := k) (hX 4 (by decide) (by decide)) (hX 6 (by decide) (by decide)) (hX 7 (by decide) (by decide)) (hX 8 (by decide) (by decide)) (hX 10 (by decide) (by decide))
  by_cases j6 : j = 6
  · subst j6
    exact t6.symm
  by_cases j7 : j = 7
  · subst j7
    exact t7.symm
  rw [tk_hi j6 j7, tk_hi j6 j7, hX j h3 (by first | decide | omega)]
end PLN
section BLK
variable (T : Tp) (n : Int)
theorem pNa_0 (s : Rg) : pNa T n s 0 = s 0 := by
  rw [pNa_n]
  split
  · split
    · split
      · rfl
      · exact pFl_0 _ _ _ _
    · exact pFl_0 _ _ _ _
  · rfl
theorem fc_hi {w j : Int} (s : Rg) (h : 3 ≤ j) : fc T n w s j = s j := by
  unfold fc
  split
  · rfl
  · exact pFl_hi T n s h
theorem rt1 {M : Int} {s : Rg} (h : pNb T n 1 1000 s 1 ≠ 0 ∨ (pNb T n 1 1000 s 1 = 0 ∧ M = tkV T n (s 0))) : pNb T n M 1000 (pKd T n 19 (pNb T n 1 1000 s)) = qRt T n 1 s := by
  have e1 : pM1 T n 1 s = pNb T n 1 1000 s := by
    unfold pM1
    rw [if_neg (by decide), if_pos rfl]
  unfold qRt pM3 pM2 pV1
  rw [e1, if_pos (rfl : (1 : Int) = 1), if_neg (show ¬ (1 : Int) = 0 by decide)]
  rcases h with h | ⟨h1, h2⟩
  · rw [pKd_id T n h, pNb_id T n h, pNb_id T n h]
  · rw [if_pos h1, h2]
theorem sg_av {w : Int} {s : Rg} (h : s 1 = 0) (k : tkK T n (s 0) = w) : pSg T n w s = pAv T n s := by rw [pSg_n, if_pos h, if_pos k]
theorem pPu_n (o : Int) (s : Rg) : pPu T n o s = if s 1 = 0 then (if tkK T n (s 0) = 123 then (if s 8 < 3 then pPs o (pAv T n s) else pAv T n s) else pWr T n s) else s := by
  unfold pPu
  rw [pSg_hi T n s (by decide)]
  by_cases h : s 1 = 0
  · rw [if_pos h, pEx_n, if_pos h]
    by_cases k : tkK T n (s 0) = 123
    · rw [if_pos k, if_pos h, sg_av T n h k, if_pos k]
    · rw [if_neg k, if_neg (pWr_1 T n h), if_neg k, pSg_n, if_pos h, if_neg k]
  · rw [pEx_id T n h, if_neg h, if_neg h, pSg_id T n h]
theorem u3_at {s : Rg} {b k v j : Int} (h0 : j ≠ b) (h1 : j ≠ b + 1) (h2 : j ≠ b + 2) : u3 s b k v j = s j := by
  unfold u3
  rw [ud_ne h2, ud_ne h1, ud_ne h0]
theorem pPs_hi {o j : Int} {s : Rg} (h : j < 8 ∨ 12 < j) : pPs o s j = s j := by
  unfold pPs
  rw [ud_ne (by first | decide | omega), u3_at (by first | decide | omega) (by first | decide | omega) (by first | decide | omega)]
theorem ps_eqr (o : Int) (s : Rg) : Eqr s (pPs o s) := eqr_hi ⟨(pPs_hi (by decide)).symm, (pPs_hi (by decide)).symm, (pPs_hi (by decide)).symm⟩ (fun j _ hj => (pPs_hi (by first | decide | omega)).symm)
theorem eqr_refl (s : Rg) : Eqr s s := eqr_hi (Ag.refl s) (fun _ _ _ => rfl)
theorem pu_eqr (o : Int) (s : Rg) : Eqr (pSg T n 123 s) (pPu T n o s) := by
  rw [pPu_n, pSg_n]
  by_cases h : s 1 = 0
  · rw [if_pos h, if_pos h]
    by_cases k : tkK T n (s 0) = 123
    · rw [if_pos k, if_pos k]
      by_cases d : s 8 < 3
      · rw [if_pos d]
        exact ps_eqr o _
      · rw [if_neg d]
        exact eqr_refl _
    · rw [if_neg k, if_neg k]
      exact eqr_refl _
  · rw [if_neg h, if_neg h]
    exact eqr_refl _
theorem ps_8 (o : Int) (s : Rg) : pPs o s 8 = s 8 + 1 ∧ pPs o s 10 = (if s 8 = 0 then o else s 10) ∧ pPs o s 11 = (if s 8 = 1 then o else s 11) ∧ pPs o s 12 = (if s 8 = 2 then o else s 12) ∧ pPs o s 4 = s 4 ∧ pPs o s 1 = s 1 ∧ pPs o s 9 = s 9 := ⟨rfl, rfl, rfl, rfl, rfl, rfl, rfl⟩
/-- a block begun: how it stands -/
theorem pPu_or (o : Int) (s : Rg) (h3 : s 8 < 3) : pPu T n o s 1 ≠ 0 ∨ (pPu T n o s 1 = 0 ∧ s 1 = 0 ∧ pPu T n o s 8 = s 8 + 1 ∧ ((s 8 = 0 ∧ pPu T n o s 10 = o) ∨ (s 8 ≠ 0 ∧ pPu T n o s 10 = s 10)) ∧ ((s 8 = 1 ∧ pPu T n o s 11 = o) ∨ (s 8 ≠ 1 ∧ pPu T n o s 11 = s 11)) ∧ ((s 8 = 2 ∧ pPu T n o s 12 = o) ∨ (s 8 ≠ 2 ∧ pPu T n o s 12 = s 12)) ∧ pPu T n o s 4 = s 4 ∧ pPu T n o s 9 = s 9) := by
  rw [pPu_n]
  by_cases h : s 1 = 0
  · rw [if_pos h]
    by_cases k : tkK T n (s 0) = 123
    · rw [if_pos k, if_pos h3]
      obtain ⟨a, b, c, d, e, f, g⟩ := ps_8 o (pAv T n s)
      have e8 : pAv T n s 8 = s 8 := rfl
      have e10 : pAv T n s 10 = s 10 := rfl
      have e11 : pAv T n s 11 = s 11 := rfl
      have e12 : pAv T n s 12 = s 12 := rfl
      have e4 : pAv T n s 4 = s 4 := rfl
      have e1 : pAv T n s 1 = s 1 := rfl
      have e9 : pAv T n s 9 = s 9 := rfl
      rw [a, b, c, d, e, f, g, e8, e10, e11, e12, e4, e1, e9]
      right
      refine ⟨h, h, rfl, ?_, ?_, ?_, rfl, rfl⟩ <;> split <;> omega
    · rw [if_neg k]
      exact Or.inl (pWr_1 T n h)
  · rw [if_neg h]
    exact Or.inl h
/-- a block's end on the other side -/
theorem sp_ce {s : Rg} (h : s 1 = 0) (k : tkK T n (s 0) = 125) (d : 0 < s 8) : pSp T n s = pEl T n (n3 s 10 (s 8 - 1)) (pAv T n (ud s 8 (s 8 - 1))) := by
  unfold pSp
  rw [if_pos h, if_neg (by first | decide | omega), if_pos k, if_pos d]
  rfl
theorem ce_no {s : Rg} {o : Int} (h : s 1 = 0) (k : tkK T n (s 0) = 125) (d : 0 < s 8) (ho : n3 s 10 (s 8 - 1) = o) (c : o = -1 ∨ Int.tmod o 2 ≠ 0 ∨ wq T n (pAv T n s 0) 0 ≠ 1) : pSp T n s = pAv T n (ud s 8 (s 8 - 1)) := by
  rw [sp_ce T n h k d, ho]
  unfold pEl
  have e : wq T n (pAv T n (ud s 8 (s 8 - 1)) 0) 0 = wq T n (pAv T n s 0) 0 := rfl
  rw [e]
  by_cases c1 : o = -1
  · rw [if_pos c1]
  · rw [if_neg c1]
    by_cases c2 : Int.tmod o 2 = 0
    · rw [if_pos c2, if_neg (by first | decide | omega)]
    · rw [if_neg c2]
theorem ce_el {s : Rg} {o : Int} (h : s 1 = 0) (k : tkK T n (s 0) = 125) (d : 0 < s 8) (ho : n3 s 10 (s 8 - 1) = o) (c1 : o ≠ -1) (c2 : Int.tmod o 2 = 0) (c3 : wq T n (pAv T n s 0) 0 = 1) : pSp T n s = pPu T n (o + 1) (pAv T n (pAv T n (ud s 8 (s 8 - 1)))) := by
  rw [sp_ce T n h k d, ho]
  unfold pEl
  have e : wq T n (pAv T n (ud s 8 (s 8 - 1)) 0) 0 = wq T n (pAv T n s 0) 0 := rfl
  rw [e, if_neg c1, if_pos c2, if_pos c3]
theorem eqr_8 (s : Rg) (v : Int) : Eqr (pAv T n s) (pAv T n (ud s 8 v)) := eqr_hi ⟨rfl, rfl, rfl⟩ (fun j h3 hj => by rw [pAv_hi T n _ h3, pAv_hi T n _ h3, ud_ne (by first | decide | omega)])
theorem eqr_88 (s : Rg) (v : Int) : Eqr (pAv T n (pAv T n s)) (pAv T n (pAv T n (ud s 8 v))) := eqr_hi ⟨rfl, rfl, rfl⟩ (fun j h3 hj => by rw [pAv_hi T n _ h3, pAv_hi T n _ h3, pAv_hi T n _ h3, pAv_hi T n _ h3, ud_ne (by first | decide | omega)])
theorem eqr_st (s : Rg) : Eqr s (pSt s) := eqr_hi (ag_st s).symm (fun j h3 hj => (st_hi (by first | decide | omega)).symm)
theorem tk_id {k : Int} {s : Rg} (h : k ≠ 1) : pTk k s = s := funext fun j => tk_ne h j
theorem qPl_ch {k c d : Int} {s : Rg} (h : k ≠ 9 ∨ c = d) : qPl T n k c s = qPl T n k d s := by
  unfold qPl
  by_cases e : k = 9
  · rw [h.resolve_left (fun q => q e)]
  · rw [if_neg e, if_neg e]
/-- what a plain clause leaves of the blocks -/
theorem ki_kp {k : Int} {b : Rg} (hb : b 1 = 0) (k6 : k ≠ 6) (k7 : k ≠ 7) {j : Int} (hj : j = 8 ∨ j = 10 ∨ j = 11 ∨ j = 12 ∨ j = 4) : pKi T n k b j = b j := by
  have h3 : 3 ≤ j := by omega
  unfold pKi
  split
  · unfold pWo
    rw [st_hi (by first | decide | omega), pSg_hi T n _ h3, pNb_hi T n _ h3, pKd_hi T n _ h3, pNb_hi T n _ h3]
  split
  · exact pFr_hi T n _ h3 (by first | decide | omega)
  split
  · unfold pFa
    split
    · split
      · rw [pFl_hi T n _ h3, pNa_hi T n _ h3]
      · rw [pSg_hi T n _ h3, pAv_hi T n _ h3, ud_ne (by first | decide | omega), pNa_hi T n _ h3]
    · exact pNa_hi T n _ h3
  split
  · unfold pMs
    rw [mo_hi (by first | decide | omega), pSg_hi T n _ h3, pCu_hi T n _ h3, pNb_hi T n _ h3]
  · unfold pRt pM3
    rw [tk_hi (by first | decide | omega) (by first | decide | omega), st_hi (by first | decide | omega), pSg_hi T n _ h3, pNb_hi T n _ h3, pKd_hi T n _ h3, pM2_hi T n _ h3, pM1_hi T n _ h3]
theorem st_9 (s : Rg) : s 9 ≤ pSt s 9 := by
  show s 9 ≤ (if s 1 = 0 then (if s 9 < 30 then s 9 + 1 else s 9) else s 9)
  (repeat' split) <;> omega
theorem ki_9 {k : Int} {b : Rg} (k6 : k ≠ 6) (k7 : k ≠ 7) : b 9 ≤ pKi T n k b 9 := by
  have h3 : (3 : Int) ≤ 9 := by decide
  have e5 : ∀ x : Rg, x 9 = b 9 → b 9 ≤ pSt x 9 := fun x e => by have := st_9 x; omega
  unfold pKi
  split
  · unfold pWo
    exact e5 _ (by rw [pSg_hi T n _ h3, pNb_hi T n _ h3, pKd_hi T n _ h3, pNb_hi T n _ h3])
  split
  · unfold pFr
    split
    · split
      · exact e5 _ (by rw [pSg_hi T n _ h3, pAv_hi T n _ h3, pEx_hi T n _ h3])
      split
      · exact e5 _ (by rw [pSg_hi T n _ h3, pAv_hi T n _ h3, pEx_hi T n _ h3])
      split
      · exact e5 _ (by rw [pSg_hi T n _ h3, pAv_hi T n _ h3, pEx_hi T n _ h3])
      split
      · exact e5 _ (by rw [pSg_hi T n _ h3, pNb_hi T n _ h3, pAv_hi T n _ h3, pEx_hi T n _ h3])
      · rw [pFl_hi T n _ h3, pEx_hi T n _ h3]
        exact Int.le_refl _
    · rw [pEx_hi T n _ h3]
      exact Int.le_refl _
  split
  · unfold pFa
    split
    · split
      · rw [pFl_hi T n _ h3, pNa_hi T n _ h3]
        exact Int.le_refl _
      · rw [pSg_hi T n _ h3, pAv_hi T n _ h3, ud_ne (by decide), pNa_hi T n _ h3]
        exact Int.le_refl _
    · rw [pNa_hi T n _ h3]
      exact Int.le_refl _
  split
  · unfold pMs
    rw [mo_hi (by decide), pSg_hi T n _ h3, pCu_hi T n _ h3, pNb_hi T n _ h3]
    exact Int.le_refl _
  · unfold pRt pM3
    rw [tk_hi (by decide) (by decide)]
    exact e5 _ (by rw [pSg_hi T n _ h3, pNb_hi T n _ h3, pKd_hi T n _ h3, pM2_hi T n _ h3, pM1_hi T n _ h3])
theorem n3_10 (s : Rg) (k : Int) : (k = 0 ∧ n3 s 10 k = s 10) ∨ (k = 1 ∧ n3 s 10 k = s 11) ∨ (k = 2 ∧ n3 s 10 k = s 12) ∨ (k ≠ 0 ∧ k ≠ 1 ∧ k ≠ 2) := by
  by_cases e0 : k = 0
  · subst e0
    exact Or.inl ⟨rfl, rfl⟩
  by_cases e1 : k = 1
  · subst e1
    exact Or.inr (Or.inl ⟨rfl, rfl⟩)
  by_cases e2 : k = 2
  · subst e2
    exact Or.inr (Or.inr (Or.inl ⟨rfl, rfl⟩))
  · exact Or.inr (Or.inr (Or.inr ⟨e0, e1, e2⟩))
theorem cl_hi (k : Int) (s : Rg) : Hi (pAv T n (ud (pTk k s) 3 (s 3 + 1))) (pTk k (pAv T n (ud s 3 (s 3 + 1)))) := by
  intro j h3 hj
  rw [pAv_hi T n _ h3]
  obtain ⟨t6, t7⟩ := tk_67 (k := k) (s := s) (t := pAv T n (ud s 3 (s 3 + 1))) rfl rfl rfl rfl rfl
  by_cases e3 : j = 3
  · subst e3
    rw [ud_at, tk_hi (by decide) (by decide)]
    rfl
  rw [ud_ne e3]
  by_cases e6 : j = 6
  · subst e6
    exact t6
  by_cases e7 : j = 7
  · subst e7
    exact t7
  rw [tk_hi e6 e7, tk_hi e6 e7, pAv_hi T n _ h3, ud_ne e3]
theorem pCo_n {s : Rg} (h : s 1 = 0) (k : tkK T n (s 0) = 60 ∨ tkK T n (s 0) = 62) : pCo T n s = pAv T n s := by
  unfold pCo
  by_cases e : tkK T n (s 0) = 60
  · rw [if_pos e, sg_av T n h rfl]
  · rw [if_neg e, if_pos (by first | decide | omega), sg_av T n h rfl]
theorem pCo_w {s : Rg} (h : s 1 = 0) (k1 : tkK T n (s 0) ≠ 60) (k2 : tkK T n (s 0) ≠ 62) : pCo T n s = pWr T n s := by
  unfold pCo
  rw [if_neg k1, if_neg k2, pEx_n, if_pos h, if_neg k1]
theorem pCo_hi {s : Rg} {j : Int} (h : 3 ≤ j) : pCo T n s j = s j := by
  unfold pCo
  split
  · exact pSg_hi T n s h
  split
  · exact pSg_hi T n s h
  · exact pEx_hi T n s h
theorem pCo_id {s : Rg} (h : s 1 ≠ 0) : pCo T n s = s := by
  unfold pCo
  rw [pSg_id T n h, pEx_id T n h]
  split
  · rfl
  split
  · rfl
  · rfl
theorem pPu_id {o : Int} {s : Rg} (h : s 1 ≠ 0) : pPu T n o s = s := by rw [pPu_n, if_neg h]
/-- the head of a when that is faulty -/
theorem wh_bad {s x : Rg} (hx : x 1 ≠ 0) (e : pCo T n (pKd T n 15 s) = x) : Eqr x (pWh T n s) := by
  unfold pWh
  rw [e, pNb_id T n hx, pPu_id T n (by rw [(ag_st x).2.1]; exact hx)]
  exact eqr_st x
end BLK
section RMW
variable {E : En} {T : Tp} {n : Int} {s : Rg} {G : Gh} {L c v z k q sk sa sb A B : Int} {P : Prop}
theorem rm_mo (h : P ∨ q ≤ k ∨ G L (Ad E L) k = sk) (hz : P ∨ z = v) : P ∨ q ≤ k ∨ (up G L (Ad E L) c z) L (Ad E L) k = (if c = k then v else sk) := by
  by_cases e : c = k
  · subst e
    rw [up_self, if_pos rfl]
    exact hz.imp id Or.inr
  · rw [up_ne (fun w => e w.2.2.symm), if_neg e]
    exact h
theorem rm_mz (h : P ∨ k < q ∨ sk = -1) (hc : c < q) : P ∨ k < q ∨ (if c = k then v else sk) = -1 := by
  by_cases e : c = k
  · subst e
    exact Or.inr (Or.inl hc)
  · rw [if_neg e]
    exact h
theorem rm_nw (h : P ∨ q ≤ k ∨ G L (Ad E L) k = wd T sa sb) (hz : P ∨ z = wd T A B) (hc : P ∨ c = q) : P ∨ q + 1 ≤ k ∨ (up G L (Ad E L) c z) L (Ad E L) k = wd T (if q = k then A else sa) (if q = k then B else sb) := by
  rcases hc with p | hc
  · exact Or.inl p
  subst hc
  by_cases e : c = k
  · subst e
    rw [up_self, if_pos rfl, if_pos rfl]
    exact hz.imp id Or.inr
  · rw [up_ne (fun w => e w.2.2.symm), if_neg e, if_neg e]
    exact h.imp id (fun w => w.imp (fun w => by omega) id)
theorem rm_nq (h : P ∨ q ≤ k ∨ G L (Ad E L) k = sk) (hk : P ∨ k < q ∨ sk = -1) (hc : P ∨ c = q) : P ∨ q + 1 ≤ k ∨ (up G L (Ad E L) c (-1)) L (Ad E L) k = sk := by
  rcases hc with p | hc
  · exact Or.inl p
  subst hc
  by_cases e : c = k
  · subst e
    rw [up_self]
    rcases hk with w | w | w
    · exact Or.inl w
    · omega
    · exact Or.inr (Or.inr w.symm)
  · rw [up_ne (fun w => e w.2.2.symm)]
    exact h.imp id (fun w => w.imp (fun w => by omega) id)
theorem rm_nz (h : P ∨ k < q ∨ sk = -1) : P ∨ k < q + 1 ∨ sk = -1 := h.imp id (fun w => w.imp (fun w => by omega) id)
theorem nmv_new (h : NmV T s) (h4 : 0 ≤ s 4) (k1 : tkK T n (s 0) = 1) (l8 : tkE T n (s 0) - tkS T n (s 0) ≤ 8) : NmV T (pNw T n s) := by
  have e4 : pNw T n s 4 = s 4 + 1 := rfl
  have e20 : ∀ k : Int, 0 ≤ k → k ≤ 2 → n3 (pNw T n s) 20 k = if s 4 = k then tkS T n (s 0) else n3 s 20 k := fun k k0 k2 => by
    rcases (by omega : k = 0 ∨ k = 1 ∨ k = 2) with w | w | w <;> subst w <;> rfl
  have e30 : ∀ k : Int, 0 ≤ k → k ≤ 2 → n3 (pNw T n s) 30 k = if s 4 = k then tkE T n (s 0) else n3 s 30 k := fun k k0 k2 => by
    rcases (by omega : k = 0 ∨ k = 1 ∨ k = 2) with w | w | w <;> subst w <;> rfl
  intro k k0 k1' k2
  rw [e20 k k0 k2, e30 k k0 k2]
  rw [e4] at k1'
  have hg := tkE_gt (T := T) (n := n) (p := s 0) (by first | decide | omega)
  by_cases e : s 4 = k
  · rw [if_pos e, if_pos e]
    exact ⟨by omega, by omega, fun i a b => tkK_let k1 a b⟩
  · rw [if_neg e, if_neg e]
    exact h k k0 (by first | decide | omega) k2
end RMW
