/-! what the steps leave, what they hang on; the reference's steps against the other side's -/
section HI
variable (T : Tp) (n : Int)
theorem pFl_hi {w j : Int} (s : Rg) (h : 3 ≤ j) : pFl T n w s j = s j := by
  unfold pFl
  split
  · rw [ud_ne (by first | decide | omega), ud_ne (by first | decide | omega)]
  · rfl
theorem pWr_hi {j : Int} (s : Rg) (h : 3 ≤ j) : pWr T n s j = s j := pFl_hi T n s h
theorem pAv_hi {j : Int} (s : Rg) (h : 3 ≤ j) : pAv T n s j = s j := ud_ne (by first | decide | omega)
theorem pEx_hi {w j : Int} (s : Rg) (h : 3 ≤ j) : pEx T n w s j = s j := by
  rw [pEx_n]
  split
  · split
    · rfl
    · exact pWr_hi T n s h
  · rfl
theorem pSg_hi {w j : Int} (s : Rg) (h : 3 ≤ j) : pSg T n w s j = s j := by
  rw [pSg_n]
  split
  · split
    · exact pAv_hi T n s h
    · exact pWr_hi T n s h
  · rfl
theorem pKd_hi {k : Nat} {j : Int} (s : Rg) (h : 3 ≤ j) : pKd T n k s j = s j := by
  rw [pKd_n]
  split
  · split
    · exact pAv_hi T n s h
    · exact pWr_hi T n s h
  · rfl
theorem pNb_hi {lo hi j : Int} (s : Rg) (h : 3 ≤ j) : pNb T n lo hi s j = s j := by
  rw [pNb_n]
  split
  · split
    · split
      · exact pFl_hi T n s h
      · split
        · exact pFl_hi T n s h
        · exact pAv_hi T n s h
    · exact pWr_hi T n s h
  · rfl
theorem pNa_hi {j : Int} (s : Rg) (h : 3 ≤ j) : pNa T n s j = s j := by
  rw [pNa_n]
  split
  · split
    · split
      · rfl
      · exact pWr_hi T n s h
    · exact pWr_hi T n s h
  · rfl
/-- behind a fault nothing goes on -/
theorem pEx_id {w : Int} {s : Rg} (h : s 1 ≠ 0) : pEx T n w s = s := by rw [pEx_n, if_neg h]
theorem pSg_id {w : Int} {s : Rg} (h : s 1 ≠ 0) : pSg T n w s = s := by rw [pSg_n, if_neg h]
theorem pKd_id {k : Nat} {s : Rg} (h : s 1 ≠ 0) : pKd T n k s = s := by rw [pKd_n, if_neg h]
theorem pNb_id {lo hi : Int} {s : Rg} (h : s 1 ≠ 0) : pNb T n lo hi s = s := by rw [pNb_n, if_neg h]
theorem pSg_m {w : Int} {s : Rg} (h : pSg T n w s 1 = 0) : s 1 = 0 := Classical.byContradiction fun q => q (by rw [pSg_id T n q] at h; exact h)
/-- the first three alike -/
def Ag (s t : Rg) : Prop := s 0 = t 0 ∧ s 1 = t 1 ∧ s 2 = t 2
theorem Ag.refl (s : Rg) : Ag s s := ⟨rfl, rfl, rfl⟩
theorem Ag.symm {s t : Rg} (h : Ag s t) : Ag t s := ⟨h.1.symm, h.2.1.symm, h.2.2.symm⟩
theorem Ag.trans {s t u : Rg} (h : Ag s t) (g : Ag t u) : Ag s u := ⟨h.1.trans g.1, h.2.1.trans g.2.1, h.2.2.trans g.2.2⟩
theorem ag_ud {s : Rg} {j v : Int} (h : 3 ≤ j) : Ag (ud s j v) s := ⟨ud_ne (by first | decide | omega), ud_ne (by first | decide | omega), ud_ne (by first | decide | omega)⟩
theorem ag_fl {w : Int} {s t : Rg} (h : Ag s t) : Ag (pFl T n w s) (pFl T n w t) := by
  unfold pFl
  rw [← h.2.1]
  split
  · refine ⟨?_, rfl, ?_⟩
    · exact h.1
    · show tkS T n (s 0) = tkS T n (t 0)
      rw [h.1]
  · exact h
theorem ag_wr {s t : Rg} (h : Ag s t) : Ag (pWr T n s) (pWr T n t) := by
  unfold pWr
  rw [h.1]
  exact ag_fl T n h
theorem ag_av {s t : Rg} (h : Ag s t) : Ag (pAv T n s) (pAv T n t) := by
  refine ⟨?_, h.2.1, h.2.2⟩
  show tkE T n (s 0) = tkE T n (t 0)
  rw [h.1]
theorem ag_sg {w : Int} {s t : Rg} (h : Ag s t) : Ag (pSg T n w s) (pSg T n w t) := by
  rw [pSg_n, pSg_n, h.1, h.2.1]
  split
  · split
    · exact ag_av T n h
    · exact ag_wr T n h
  · exact h
theorem ag_kd {k : Nat} {s t : Rg} (h : Ag s t) : Ag (pKd T n k s) (pKd T n k t) := by
  rw [pKd_n, pKd_n, h.1, h.2.1]
  split
  · split
    · exact ag_av T n h
    · exact ag_wr T n h
  · exact h
theorem ag_nb {lo hi : Int} {s t : Rg} (h : Ag s t) : Ag (pNb T n lo hi s) (pNb T n lo hi t) := by
  rw [pNb_n, pNb_n, h.1, h.2.1]
  split
  · split
    · split
      · exact ag_fl T n h
      · split
        · exact ag_fl T n h
        · exact ag_av T n h
    · exact ag_wr T n h
  · exact h
theorem ag_na {s t : Rg} (h : Ag s t) : Ag (pNa T n s) (pNa T n t) := by
  rw [pNa_n, pNa_n, h.1, h.2.1]
  split
  · split
    · split
      · exact h
      · exact ag_wr T n h
    · exact ag_wr T n h
  · exact h
end HI
/-- alike in all that the reference's fields tell -/
def Eqr (s t : Rg) : Prop := Ag s t ∧ (s 4 = t 4 ∧ s 20 = t 20 ∧ s 21 = t 21 ∧ s 22 = t 22 ∧ s 30 = t 30 ∧ s 31 = t 31 ∧ s 32 = t 32) ∧ (s 1 = 0 → s 3 = t 3 ∧ s 5 = t 5 ∧ s 6 = t 6 ∧ s 7 = t 7 ∧ s 40 = t 40 ∧ s 41 = t 41 ∧ s 42 = t 42)
/-- alike from 3 on, but 8 to 12 -/
def Hi (s t : Rg) : Prop := ∀ j : Int, 3 ≤ j → (j ≤ 7 ∨ 13 ≤ j) → s j = t j
theorem eqr_hi {s t : Rg} (h : Ag s t) (g : Hi s t) : Eqr s t := ⟨h, ⟨g 4 (by decide) (by decide), g 20 (by decide) (by decide), g 21 (by decide) (by decide), g 22 (by decide) (by decide), g 30 (by decide) (by decide), g 31 (by decide) (by decide), g 32 (by decide) (by decide)⟩, fun _ => ⟨g 3 (by decide) (by decide), g 5 (by decide) (by decide), g 6 (by decide) (by decide), g 7 (by decide) (by decide), g 40 (by decide) (by decide), g 41 (by decide) (by decide), g 42 (by decide) (by decide)⟩⟩
theorem Eqr.symm {s t : Rg} (h : Eqr s t) : Eqr t s := by
  obtain ⟨h1, ⟨a, b, c, d, e, f, g⟩, h3⟩ := h
  refine ⟨h1.symm, ⟨a.symm, b.symm, c.symm, d.symm, e.symm, f.symm, g.symm⟩, fun q => ?_⟩
  obtain ⟨a, b, c, d, e, f, g⟩ := h3 (h1.2.1.trans q)
  exact ⟨a.symm, b.symm, c.symm, d.symm, e.symm, f.symm, g.symm⟩
theorem rm_eqr {E : En} {T : Tp} {n : Int} {s t : Rg} {G : Gh} (h : RdM E T n s G) (e : Eqr s t) : RdM E T n t G := by
  obtain ⟨⟨e0, e1, e2⟩, ⟨e4, a0, a1, a2, b0, b1, b2⟩, e3⟩ := e
  have c : ∀ {P Q : Prop}, (s 1 = 0 → P → Q) → (s 1 ≠ 0 ∨ P) → (t 1 ≠ 0 ∨ Q) := by
    intro P Q f hp
    rw [← e1]
    by_cases q : s 1 = 0
    · exact Or.inr (f q (hp.resolve_left (fun w => w q)))
    · exact Or.inl q
  have w3 := fun q => (e3 q).1
  have w5 := fun q => (e3 q).2.1
  have w6 := fun q => (e3 q).2.2.1
  have w7 := fun q => (e3 q).2.2.2.1
  have m0 := fun q => (e3 q).2.2.2.2.1
  have m1 := fun q => (e3 q).2.2.2.2.2.1
  have m2 := fun q => (e3 q).2.2.2.2.2.2
  refine rm_mk (rm_tape h) (rm_end h) (e0 ▸ rm_at h) (e0 ▸ rm_beh h) (e0 ▸ rm_sort h) (e0 ▸ rm_num h) (e0 ▸ rm_sgn h) (e0 ▸ rm_word h) (e0 ▸ rm_let h) (e1 ▸ rm_bad h) (by rw [← e1, ← e2]; exact rm_bat h) (c (fun q p => p.trans (w3 q)) (rm_nm h)) (c (fun _ p => p.trans e4) (rm_nc h)) (c (fun q p => p.trans (w5 q)) (rm_nd h)) (c (fun q p => p.trans (w6 q)) (rm_ti h)) (c (fun q p => p.trans (w7 q)) (rm_to h)) (c (fun _ p => ?_) (rm_w0 h)) (c (fun _ p => ?_) (rm_w1 h)) (c (fun _ p => ?_) (rm_w2 h)) (c (fun q p => ?_) (rm_q0 h)) (c (fun q p => ?_) (rm_q1 h)) (c (fun q p => ?_) (rm_q2 h)) (c (fun q p => ?_) (rm_z0 h)) (c (fun q p => ?_) (rm_z1 h)) (c (fun q p => ?_) (rm_z2 h)) (nmv_keep (rm_nv h) e4.symm a0.symm a1.symm a2.symm b0.symm b1.symm b2.symm) (e0 ▸ rm_p0 h) (e0 ▸ rm_p1 h) (rm_n4 h) (c (fun _ p => e4 ▸ p) (rm_c3 h))
  · rw [← e4, ← a0, ← b0]; exact p
  · rw [← e4, ← a1, ← b1]; exact p
  · rw [← e4, ← a2, ← b2]; exact p
  · rw [← e4, ← m0 q]; exact p
  · rw [← e4, ← m1 q]; exact p
  · rw [← e4, ← m2 q]; exact p
  · rw [← e4, ← m0 q]; exact p
  · rw [← e4, ← m1 q]; exact p
  · rw [← e4, ← m2 q]; exact p
section QF
variable (T : Tp) (n : Int)
/-- a fault, or none -/
def fc (w : Int) (s : Rg) : Rg := if w = 0 then s else pFl T n w s
theorem fc_1 {w : Int} {s : Rg} (h : s 1 = 0) : fc T n w s 1 = w := by
  unfold fc
  split
  · rename_i q
    rw [q]; exact h
  · exact pFl_1 T n h
theorem fc_step {w b b2 : Int} {s : Rg} (h : s 1 = 0) (hw : w ≠ 0) (e : b2 = pFl T n w (fc T n b s) 1) : pFl T n w (fc T n b s) = fc T n b2 s ∧ ((b = 0 ∧ b2 = w) ∨ (b ≠ 0 ∧ b2 = b)) := by
  by_cases q : b = 0
  · subst q
    have e1 : fc T n 0 s = s := if_pos rfl
    rw [e1] at e ⊢
    rw [pFl_1 T n h] at e
    subst e
    exact ⟨(if_neg hw).symm, Or.inl ⟨rfl, rfl⟩⟩
  · have e1 : fc T n b s 1 = b := fc_1 T n h
    rw [pFl_id T n (by rw [e1]; exact q)] at e ⊢
    rw [e1] at e
    subst e
    exact ⟨rfl, Or.inr ⟨q, rfl⟩⟩
theorem pIt_add (a b : Nat) (s : Rg) : pIt T n (a + b) s = pIt T n b (pIt T n a s) := by
  induction a generalizing s with
  | zero => rw [Nat.zero_add]; rfl
  | succ a ih =>
    rw [Nat.succ_add]
    exact ih (pSp T n s)
theorem pIt_one (s : Rg) : pIt T n 1 s = pSp T n s := rfl
theorem pIt_id {s : Rg} (h : s 1 ≠ 0) (k : Nat) : pIt T n k s = s := by
  induction k with
  | zero => rfl
  | succ k ih =>
    show pIt T n k (pSp T n s) = s
    rw [show pSp T n s = s from if_neg h]
    exact ih
theorem pCw_word {p : Int} (h : pCw T n p ≠ -1) : tkK T n p = 1 := by
  apply Classical.byContradiction
  intro q
  have w : ∀ k : Nat, wq T n p k = 0 := fun k => by
    rcases wq_or T n p k with c | c
    · exact absurd c.1 q
    · exact c.2
  apply h
  unfold pCw
  rw [w, w, w, w, w, w, w, w, w, w]
  decide
theorem pCl_n {s : Rg} (h : s 1 = 0) : pCl T n s = if tkK T n (s 0) = 1 then (if pWf (pCw T n (s 0)) s = 0 then pKi T n (pCw T n (s 0)) (pAv T n (ud s 3 (s 3 + 1))) else pFl T n (pWf (pCw T n (s 0)) s) s) else pWr T n s := by
  unfold pCl
  rw [pEx_n, if_pos h]
  by_cases h2 : tkK T n (s 0) = 1
  · rw [if_pos h2, if_pos h, if_pos h2]
  · rw [if_neg h2, if_neg (pWr_1 T n h), if_neg h2]
theorem sp_cl {s : Rg} (h : s 1 = 0) (h0 : tkK T n (s 0) ≠ 0) (h1 : tkK T n (s 0) ≠ 125 ∨ s 8 ≤ 0) : pSp T n s = pCl T n s := by
  unfold pSp
  rw [if_pos h, if_neg h0]
  by_cases q : tkK T n (s 0) = 125
  · rw [if_pos q, if_neg (by first | decide | omega)]
  · rw [if_neg q]
theorem sp_wr {s : Rg} (h : s 1 = 0) (hk : pCw T n (s 0) = -1) (h0 : tkK T n (s 0) ≠ 0 ∨ 0 < s 8) (h1 : tkK T n (s 0) ≠ 125 ∨ s 8 ≤ 0) : pSp T n s = pWr T n s := by
  by_cases q : tkK T n (s 0) = 0
  · unfold pSp
    rw [if_pos h, if_pos q, if_pos (by first | decide | omega)]
    unfold pWr
    rw [if_neg (by first | decide | omega)]
  · rw [sp_cl T n h q h1, pCl_n T n h]
    by_cases c : tkK T n (s 0) = 1
    · rw [if_pos c, hk]
      have e : pWf (-1) s = 2 := if_pos rfl
      rw [e, if_neg (by decide)]
      unfold pWr
      rw [if_neg (by first | decide | omega)]
    · rw [if_neg c]
theorem sp_fl {s : Rg} {w : Int} (h : s 1 = 0) (hk : pCw T n (s 0) ≠ -1) (hw : pWf (pCw T n (s 0)) s = w) (h0 : w ≠ 0) : pSp T n s = pFl T n w s := by
  have c := pCw_word T n hk
  rw [sp_cl T n h (by first | decide | omega) (by first | decide | omega), pCl_n T n h, if_pos c, hw, if_neg h0]
theorem sp_ki {s : Rg} (h : s 1 = 0) (hk : pCw T n (s 0) ≠ -1) (hw : pWf (pCw T n (s 0)) s = 0) : pSp T n s = pKi T n (pCw T n (s 0)) (pAv T n (ud s 3 (s 3 + 1))) := by
  have c := pCw_word T n hk
  rw [sp_cl T n h (by first | decide | omega) (by first | decide | omega), pCl_n T n h, if_pos c, hw, if_pos rfl]
/-! the reference's plain clauses -/
def qFr (s : Rg) : Rg := if wq T n (s 0) 12 = 1 then pAv T n s else if wq T n (s 0) 13 = 1 then pAv T n s else if wq T n (s 0) 14 = 1 then pAv T n s else pNb T n 0 9999999 (pKd T n 3 s)
def qFa (s : Rg) : Rg := if pNa T n s 1 = 0 then (if pNm T n (pNa T n s) 0 = -1 then pFl T n 5 (pNa T n s) else pAv T n (ud (pNa T n s) 5 (pNm T n (pNa T n s) 0))) else pNa T n s
def qCu (s : Rg) : Rg := if s 1 = 0 then (if wq T n (s 0) 17 = 1 then pAv T n s else pNb T n 0 9999999 (pKd T n 16 s)) else pNb T n 0 9999999 (pKd T n 16 s)
def qMs (ch : Int) (s : Rg) : Rg := qCu T n (pMo ch (tkV T n (s 0)) (pNb T n 0 9999999 s))
def qRt (k : Int) (s : Rg) : Rg := pM3 T n k (pV1 T n k s) (pM2 T n k (pM1 T n k s))
def qPl (k ch : Int) (s : Rg) : Rg := if k = 4 then pNb T n 0 19 (pKd T n 11 (pNb T n 0 1000 s)) else if k = 5 then qFr T n s else if k = 8 then qFa T n s else if k = 9 then qMs T n ch s else qRt T n k s
theorem ag_m1 {k : Int} {s t : Rg} (h : Ag s t) : Ag (pM1 T n k s) (pM1 T n k t) := by
  unfold pM1
  split
  · exact ag_nb T n h
  split
  · exact ag_nb T n h
  · exact ag_nb T n h
theorem ag_m2 {k : Int} {s t : Rg} (h : Ag s t) : Ag (pM2 T n k s) (pM2 T n k t) := by
  unfold pM2
  split
  · exact ag_nb T n (ag_kd T n h)
  · exact h
theorem pV1_ag {k : Int} {s t : Rg} (h : Ag s t) : pV1 T n k s = pV1 T n k t := by
  unfold pV1
  rw [(ag_m1 T n h).2.1, h.1]
theorem ag_m3 {k m : Int} {s t : Rg} (h : Ag s t) : Ag (pM3 T n k m s) (pM3 T n k m t) := ag_nb T n (ag_kd T n h)
theorem pM1_hi {k j : Int} (s : Rg) (h : 3 ≤ j) : pM1 T n k s j = s j := by
  unfold pM1
  split
  · exact pNb_hi T n s h
  split
  · exact pNb_hi T n s h
  · exact pNb_hi T n s h
theorem pM2_hi {k j : Int} (s : Rg) (h : 3 ≤ j) : pM2 T n k s j = s j := by
  unfold pM2
  split
  · rw [pNb_hi T n _ h, pKd_hi T n _ h]
  · rfl
theorem rw_cong {s t : Rg} (h8 : s 8 = t 8) (h10 : s 10 = t 10) (h4 : s 4 = t 4) : pRw s = pRw t := by
  unfold pRw
  rw [h8, h10, h4]
theorem st_hi {s : Rg} {j : Int} (h : j ≠ 9) : pSt s j = s j := ud_ne h
theorem ag_st (s : Rg) : Ag (pSt s) s := ag_ud (by decide)
theorem tk_hi {k : Int} {s : Rg} {j : Int} (h6 : j ≠ 6) (h7 : j ≠ 7) : pTk k s j = s j := by
  unfold pTk
  rw [ud_ne h6, ud_ne h7]
theorem ag_tk (k : Int) (s : Rg) : Ag (pTk k s) s := ⟨tk_hi (by decide) (by decide), tk_hi (by decide) (by decide), tk_hi (by decide) (by decide)⟩
/-- taking, counting in: what hangs on 4, 6, 7, 8, 10 alone -/
theorem tk_67 {k : Int} {s t : Rg} (h4 : s 4 = t 4) (h6 : s 6 = t 6) (h7 : s 7 = t 7) (h8 : s 8 = t 8) (h10 : s 10 = t 10) : pTk k s 6 = pTk k t 6 ∧ pTk k s 7 = pTk k t 7 := by
  have e := rw_cong (s := s) (t := t) h8 h10 h4
  constructor
  · show (if k = 1 then (if pRw s = 3 then s 6 else 1) else s 6) = (if k = 1 then (if pRw t = 3 then t 6 else 1) else t 6)
    rw [e, h6]
  · show (if k = 1 then (if pRw s = 3 then 1 else s 7) else s 7) = (if k = 1 then (if pRw t = 3 then 1 else t 7) else t 7)
    rw [e, h7]
end QF
