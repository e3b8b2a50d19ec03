/-! WHAT IS TOLD, in whole numbers: t c i; of c 0 to 11 at i = 0: accounts, issues, trades, events, choices, options, names (how many), the latest day, the tape's length, as of, flaw, place; 20, 21, 22 struck (-1: not) of trades, events, choices; 23, 24 an event's choices, default; 30 to 33 a name's paper, day, number, known; 40 the tape -/
abbrev Tz : Type := Int → Int → Int
def tu (t : Tz) (c i v : Int) : Tz := fun c' i' => if c' = c ∧ i' = i then v else t c' i'
theorem tu_at (t : Tz) (c i v : Int) : tu t c i v c i = v := if_pos ⟨rfl, rfl⟩
theorem tu_nc {t : Tz} {c i v c' i' : Int} (h : c' ≠ c) : tu t c i v c' i' = t c' i' := if_neg fun q => h q.1
theorem tu_ni {t : Tz} {c i v c' i' : Int} (h : i' ≠ i) : tu t c i v c' i' = t c' i' := if_neg fun q => h q.2
def iDay (d : Int) : Bool := decide (0 ≤ d ∧ d ≤ 40000)
def iPap (p : Int) : Bool := decide (0 ≤ p ∧ p ≤ 19)
def iIn (v n : Int) : Bool := decide (0 ≤ v ∧ v < n)
/-- one told more: its kind's count, and the latest day -/
def tOne (t : Tz) (c k : Int) : Tz := tu (tu t c 0 (t c 0 + 1)) 7 0 k
def oIss (t : Tz) (a p d s w k : Int) : Bool := iIn a (t 0 0) && iPap p && iDay d && decide (1 ≤ s ∧ s ≤ 1000000) && decide (0 ≤ w ∧ w ≤ 100000000) && iDay k && decide (t 1 0 < 40) && decide (t 7 0 ≤ k)
def tIss (t : Tz) (a p d s w k : Int) : Tz × Int := if oIss t a p d s w k = true then (tOne t 1 k, 1) else (t, 0)
def oTrd (t : Tz) (f g p s d e k : Int) : Bool := iIn f (t 0 0) && iIn g (t 0 0) && decide (f ≠ g) && iPap p && decide (1 ≤ s ∧ s ≤ 1000000) && iDay d && iDay e && decide (d ≤ e) && iDay k && decide (t 2 0 < 40) && decide (t 7 0 ≤ k)
def tTrd (t : Tz) (f g p s d e k : Int) : Tz × Int := if oTrd t f g p s d e k = true then (tOne (tu t 20 (t 2 0) (-1)) 2 k, t 2 0) else (t, -1)
def oOpt (t : Tz) (p d s n k : Int) : Bool := iPap p && iDay d && decide (1 ≤ s ∧ s ≤ 1000000) && decide (1 ≤ n ∧ n ≤ 10000) && iDay k && decide (t 5 0 < 10) && decide (t 7 0 ≤ k)
def tOpt (t : Tz) (p d s n k : Int) : Tz × Int := if oOpt t p d s n k = true then (tOne t 5 k, t 5 0) else (t, -1)
def oNam (t : Tz) (p n d k : Int) : Bool := iPap p && decide (0 ≤ n ∧ n ≤ 9999) && iDay d && iDay k && decide (t 6 0 < 60) && decide (t 7 0 ≤ k)
def tNam (t : Tz) (p n d k : Int) : Tz × Int := if oNam t p n d k = true then (tOne (tu (tu (tu (tu t 30 (t 6 0) p) 31 (t 6 0) d) 32 (t 6 0) n) 33 (t 6 0) k) 6 k, 1) else (t, 0)
def oChs (t : Tz) (e a c d k : Int) : Bool := iIn e (t 3 0) && iIn c (t 23 e) && iIn a (t 0 0) && iDay d && iDay k && decide (t 4 0 < 60) && decide (t 7 0 ≤ k)
def tChs (t : Tz) (e a c d k : Int) : Tz × Int := if oChs t e a c d k = true then (tOne (tu t 22 (t 4 0) (-1)) 4 k, t 4 0) else (t, -1)
/-- what may be struck: its kind among what is told, and how many there are -/
def oStk (t : Tz) (w i k : Int) : Bool := decide (0 ≤ w ∧ w ≤ 2) && iIn i (if w = 0 then t 2 0 else if w = 1 then t 3 0 else t 4 0) && iDay k && decide (t 7 0 ≤ k) && decide (t (20 + w) i = -1)
def tStk (t : Tz) (w i k : Int) : Tz × Int := if oStk t w i k = true then (tu (tu t (20 + w) i k) 7 0 k, 1) else (t, 0)
def tAso (t : Tz) (d : Int) : Tz × Int := if iDay d = true then (tu t 9 0 d, 1) else (t, 0)
def oAcc (t : Tz) (u l d : Int) : Bool := (decide (u = -1) || iIn u (t 0 0)) && decide (0 ≤ l ∧ l ≤ 30) && decide (0 ≤ d ∧ d ≤ 30) && decide (t 0 0 < 20)
def tAcc (t : Tz) (u l d : Int) : Tz × Int := if oAcc t u l d = true then (tu t 0 0 (t 0 0 + 1), t 0 0) else (t, -1)
def tCho (t : Tz) (e : Int) : Int := if iIn e (t 3 0) = true then t 23 e else -1
def tFau (t : Tz) (w : Int) : Int := if w = 0 then t 10 0 else if w = 1 then t 11 0 else -1
/-- a byte of four, the highest first -/
def byt (v : Int) (k : Int) : Int := if k = 0 then v / 16777216 % 256 else if k = 1 then v / 65536 % 256 else if k = 2 then v / 256 % 256 else v % 256
def tLay (t : Tz) (v : Int) : Tz := tu (tu (tu (tu (tu t 40 (t 8 0) (byt v 0)) 40 (t 8 0 + 1) (byt v 1)) 40 (t 8 0 + 2) (byt v 2)) 40 (t 8 0 + 3) (byt v 3)) 8 0 (t 8 0 + 4)
def tFed (t : Tz) (a b c d e : Int) : Tz × Int := if 400 < t 8 0 + 20 then (t, -1) else (tLay (tLay (tLay (tLay (tLay t a) b) c) d) e, t 8 0 + 20)
/-- a text that is read through -/
def pS0 : Rg := fun j => if j = 2 then -1 else if j = 5 then -1 else if 40 ≤ j ∧ j ≤ 42 then -1 else 0
def oEvt (t : Tz) (p n ex rec last k : Int) : Bool := iPap p && decide (0 ≤ n ∧ n ≤ t 8 0) && iDay ex && iDay rec && iDay last && decide (rec - ex ≤ 10 ∧ ex - rec ≤ 10) && decide (rec ≤ last) && iDay k && decide (t 3 0 < 16) && decide (t 7 0 ≤ k)
/-- the text is read: the tape is empty, what fault there was -/
def tRed (t : Tz) (s : Rg) : Tz := tu (tu (tu t 8 0 0) 10 0 (s 1)) 11 0 (s 2)
def tEvt (t : Tz) (s : Rg) (p n ex rec last k : Int) : Tz × Int := if oEvt t p n ex rec last k = true then (if s 1 = 0 then (tOne (tu (tu (tu (tRed t s) 21 (t 3 0) (-1)) 23 (t 3 0) (s 4)) 24 (t 3 0) (s 5)) 3 k, t 3 0) else (tRed t s, -1)) else (t, -1)
/-- which name of those told counts for a paper on a day: its place, from k on, b so far -/
def cldF (t : Tz) (p d : Int) : Nat → Int → Int → Int
  | 0, _, b => b
  | j + 1, k, b => if k < t 6 0 then cldF t p d j (k + 1) (if t 30 k = p ∧ t 33 k ≤ t 9 0 ∧ t 31 k ≤ d ∧ (b < 0 ∨ t 31 b ≤ t 31 k) then k else b) else b
def cldN (t : Tz) (p d : Int) : Int := cldF t p d (t 6 0).toNat 0 (-1)
def cldV (t : Tz) (p d : Int) : Int := if cldN t p d < 0 then -1 else t 32 (cldN t p d)
def tCld (t : Tz) (p d : Int) : Int := if iPap p = true then (if iDay d = true then cldV t p d else -1) else -1
def fndF (t : Tz) (n d : Int) : Nat → Int → Int → Int
  | 0, _, _ => -1
  | j + 1, p, k => if p < 20 then (if cldV t p d = n then (if k = 0 then p else fndF t n d j (p + 1) (k - 1)) else fndF t n d j (p + 1) k) else -1
def tFnd (t : Tz) (n d k : Int) : Int := if 0 ≤ n ∧ n ≤ 9999 then (if iDay d = true then fndF t n d 20 0 k else -1) else -1
def elm (S : Sg) (G : Gh) (L l i : Int) : Int := G (S (G L l 1)) (G L l 1) i
def Q0 (G : Gh) (x : Int) (t : Tz) : Prop := G 130 (G 128 x 5) 0 = t 0 0 ∧ G 154 (G 128 x 6) 2 = t 1 0 ∧ G 155 (G 128 x 7) 2 = t 2 0 ∧ G 156 (G 128 x 8) 2 = t 3 0 ∧ G 157 (G 128 x 9) 2 = t 4 0 ∧ G 158 (G 128 x 10) 2 = t 5 0 ∧ G 159 (G 128 x 11) 2 = t 6 0 ∧ G 128 x 1 = t 7 0 ∧ G 131 (G 128 x 16) 0 = t 8 0 ∧ G 129 (G 128 x 17) 0 = t 9 0 ∧ G 131 (G 128 x 16) 1 = t 10 0 ∧ G 131 (G 128 x 16) 2 = t 11 0
def Q1 (S : Sg) (G : Gh) (x : Int) (t : Tz) : Prop := ∀ i : Int, 0 ≤ i → i < G 155 (G 128 x 7) 2 → G 140 (elm S G 155 (G 128 x 7) i) 1 = t 20 i
def Q2 (S : Sg) (G : Gh) (x : Int) (t : Tz) : Prop := ∀ i : Int, 0 ≤ i → i < G 156 (G 128 x 8) 2 → G 137 (elm S G 156 (G 128 x 8) i) 1 = t 21 i ∧ S (G 137 (elm S G 156 (G 128 x 8) i) 3) = 136 ∧ G 136 (G 137 (elm S G 156 (G 128 x 8) i) 3) 1 = t 23 i ∧ G 136 (G 137 (elm S G 156 (G 128 x 8) i) 3) 2 = t 24 i ∧ G 137 (elm S G 156 (G 128 x 8) i) 3 ≠ G 131 (G 128 x 16) 9 ∧ 0 ≤ G 137 (elm S G 156 (G 128 x 8) i) 3
def Q3 (S : Sg) (G : Gh) (x : Int) (t : Tz) : Prop := ∀ i : Int, 0 ≤ i → i < G 157 (G 128 x 9) 2 → G 138 (elm S G 157 (G 128 x 9) i) 1 = t 22 i
def Q4 (S : Sg) (G : Gh) (x : Int) (t : Tz) : Prop := ∀ i : Int, 0 ≤ i → i < G 159 (G 128 x 11) 2 → G 141 (elm S G 159 (G 128 x 11) i) 2 = t 30 i ∧ G 141 (elm S G 159 (G 128 x 11) i) 3 = t 31 i ∧ G 141 (elm S G 159 (G 128 x 11) i) 4 = t 32 i ∧ G 141 (elm S G 159 (G 128 x 11) i) 0 = t 33 i ∧ G 141 (elm S G 159 (G 128 x 11) i) 1 = -1
def Q5 (G : Gh) (x : Int) (t : Tz) : Prop := ∀ i : Int, 0 ≤ i → i < G 131 (G 128 x 16) 0 → G 105 (G 131 (G 128 x 16) 3) i = t 40 i
def Q6 (S : Sg) (G : Gh) (x : Int) : Prop := S x = 128 ∧ S (G 128 x 5) = 130 ∧ S (G 128 x 6) = 154 ∧ S (G 128 x 7) = 155 ∧ S (G 128 x 8) = 156 ∧ S (G 128 x 9) = 157 ∧ S (G 128 x 10) = 158 ∧ S (G 128 x 11) = 159 ∧ S (G 128 x 16) = 131 ∧ S (G 128 x 17) = 129 ∧ S (G 131 (G 128 x 16) 3) = 105
def Q7 (S : Sg) (G : Gh) (x : Int) : Prop := G 131 (G 128 x 16) 15 ≠ G 131 (G 128 x 16) 16 ∧ (0 ≤ G 131 (G 128 x 16) 9 → S (G 131 (G 128 x 16) 9) = 136 ∧ G 136 (G 131 (G 128 x 16) 9) 9 ≠ G 136 (G 131 (G 128 x 16) 9) 10)
def D1 (S : Sg) (G : Gh) (x : Int) : Prop := ∀ i j : Int, 0 ≤ i → i < j → j < G 155 (G 128 x 7) 2 → elm S G 155 (G 128 x 7) i ≠ elm S G 155 (G 128 x 7) j
def D2 (S : Sg) (G : Gh) (x : Int) : Prop := ∀ i j : Int, 0 ≤ i → i < j → j < G 156 (G 128 x 8) 2 → elm S G 156 (G 128 x 8) i ≠ elm S G 156 (G 128 x 8) j
def D3 (S : Sg) (G : Gh) (x : Int) : Prop := ∀ i j : Int, 0 ≤ i → i < j → j < G 157 (G 128 x 9) 2 → elm S G 157 (G 128 x 9) i ≠ elm S G 157 (G 128 x 9) j
def RelC (S : Sg) (G : Gh) (x : Int) (t : Tz) : Prop := Q6 S G x ∧ Q0 G x t ∧ Q1 S G x t ∧ Q2 S G x t ∧ Q3 S G x t ∧ Q4 S G x t ∧ Q5 G x t ∧ Q7 S G x ∧ D1 S G x ∧ D2 S G x ∧ D3 S G x
/-- at the fields of gs all that is labelled stays -/
def Frm (gs : List (Int × Int)) (S : Sg) (G : Gh) (S' : Sg) (G' : Gh) : Prop := (∀ a : Int, S a ≠ 0 → S' a = S a) ∧ ∀ L a j : Int, inm gs L j = true → S a = L → L ≠ 0 → G' L a j = G L a j
def djg (ws gs : List (Int × Int)) : Bool := gs.all (fun q => ws.all (fun p => !(p.1 == q.1 && (p.2 == -1 || q.2 == -1 || p.2 == q.2))))
theorem djg_out {ws gs : List (Int × Int)} (h : djg ws gs = true) {L j : Int} (hg : inm gs L j = true) : inm ws L j = false := by
  cases e : inm ws L j with
  | false => rfl
  | true =>
    exfalso
    obtain ⟨q, hq, q1, q2⟩ := inm_iff.mp hg
    obtain ⟨p, hp, p1, p2⟩ := inm_iff.mp e
    have c := List.all_eq_true.mp (List.all_eq_true.mp h q hq) p hp
    simp only [Bool.not_eq_true', Bool.and_eq_false_iff, beq_eq_false_iff_ne, ne_eq, Bool.or_eq_false_iff] at c
    rcases c with c | ⟨⟨c1, c2⟩, c3⟩
    · exact c (p1.trans q1.symm)
    · rcases p2 with p2 | p2
      · exact c1 p2
      · rcases q2 with q2 | q2
        · exact c2 q2
        · exact c3 (p2.trans q2.symm)
theorem frm_refl (gs : List (Int × Int)) (S : Sg) (G : Gh) : Frm gs S G S G := ⟨fun _ _ => rfl, fun _ _ _ _ _ _ => rfl⟩
theorem frm_hw {gs ws : List (Int × Int)} {S : Sg} {G g : Gh} (c : djg ws gs = true) : Frm gs S G S (hw ws G g) := ⟨fun _ _ => rfl, fun _ _ _ hg _ _ => hw_out (djg_out c hg)⟩
theorem frm_gr {gs ws : List (Int × Int)} {nl : List Int} {S S' : Sg} {G G' : Gh} (g : Gr nl ws S G S' G') (c : djg ws gs = true) : Frm gs S G S' G' := ⟨fun a h => g.1 a h, fun _ _ _ hg hs h0 => gr_at g hs h0 (djg_out c hg)⟩
theorem frm_hv {gs : List (Int × Int)} {mf ml : List Int} {S : Sg} {G g : Gh} (c : gs.all (fun q => decide (92 < q.1)) = true) (c2 : ml.all (fun K => decide (K ≤ 92)) = true) : Frm gs S G S (hv mf ml G g) := ⟨fun _ _ => rfl, fun L a j hg _ _ => by
  obtain ⟨q, hq, q1, -⟩ := inm_iff.mp hg
  have := of_decide_eq_true (List.all_eq_true.mp c q hq)
  unfold hv
  rw [if_neg]
  intro w
  simp only [Bool.or_eq_true, Bool.and_eq_true, beq_iff_eq] at w
  rcases w with w | w
  · omega
  · have := of_decide_eq_true (List.all_eq_true.mp c2 L (by simpa using w))
    omega⟩
theorem Frm.trans {gs : List (Int × Int)} {S S1 S2 : Sg} {G G1 G2 : Gh} (h : Frm gs S G S1 G1) (k : Frm gs S1 G1 S2 G2) : Frm gs S G S2 G2 := ⟨fun a ha => by rw [k.1 a (by rw [h.1 a ha]; exact ha), h.1 a ha], fun L a j hg hs h0 => by rw [k.2 L a j hg (by rw [h.1 a (by rw [hs]; exact h0)]; exact hs) h0, h.2 L a j hg hs h0]⟩
theorem Frm.sub {gs gs' : List (Int × Int)} {S S' : Sg} {G G' : Gh} (h : Frm gs S G S' G') (c : subw gs' gs = true) : Frm gs' S G S' G' := ⟨h.1, fun L a j hg hs h0 => by
  refine h.2 L a j ?_ hs h0
  cases e : inm gs L j with
  | true => rfl
  | false => rw [subw_in c e] at hg; cases hg⟩
theorem frm_up {gs : List (Int × Int)} {S S1 : Sg} {G G1 : Gh} {L a j v : Int} (h : Frm gs S G S1 G1) (c : inm gs L j = false) : Frm gs S G S1 (up G1 L a j v) := ⟨h.1, fun K b i hg hs h0 => by
  rw [up_ne (fun q => by rw [q.1, q.2.2, c] at hg; cases hg)]
  exact h.2 K b i hg hs h0⟩
theorem frm_rs {gs : List (Int × Int)} {S S1 S2 : Sg} {G G1 G2 : Gh} {a L L' : Int} (h : Frm gs S G S1 G1) (r : Rs a L L' S1 G1 S2 G2) (z : S a = 0) : Frm gs S G S2 G2 := ⟨fun b hb => by
  have ne : b ≠ a := fun e => hb (by rw [e]; exact z)
  rw [r.2.1 b ne, h.1 b hb], fun K b i hg hs h0 => by
  have ne : b ≠ a := fun e => h0 (by rw [← hs, e]; exact z)
  rw [r.2.2.2 K b i ne, h.2 K b i hg hs h0]⟩
theorem frm_tr {gs : List (Int × Int)} {S S1 S2 : Sg} {G G1 G2 : Gh} (h : Frm gs S G S1 G1) (k : Frm gs S1 G1 S2 G2) : Frm gs S G S2 G2 := h.trans k
def gk155 : List (Int × Int) := [(155, 1), (165, -1), (166, -1), (167, -1), (168, -1), (169, -1)]
theorem elk_155 {E : En} {S S' : Sg} {G G' : Gh} {l i : Int} (ci : CI E S G) (hl : S l = 155) (fr : Frm gk155 S G S' G') (i0 : 0 ≤ i) (i1 : i < G 155 l 2) : elm S' G' 155 l i = elm S G 155 l i := by
  have a1 := fr.2 155 l 1 (by decide) hl (by decide)
  unfold elm
  rw [a1]
  rcases ci_L1 ci hl (rfl : G 155 l 1 = _) (rfl : G 155 l 2 = _) i0 i1 with ⟨c1, -, c2⟩ | ⟨c1, -, c2⟩ | ⟨c1, -, c2⟩ | ⟨c1, -, c2⟩ | ⟨c1, -, c2⟩
  · rw [fr.1 _ (by rw [c1]; decide), c1]
    exact fr.2 165 _ i (by rfl) c1 (by decide)
  · rw [fr.1 _ (by rw [c1]; decide), c1]
    exact fr.2 166 _ i (by rfl) c1 (by decide)
  · rw [fr.1 _ (by rw [c1]; decide), c1]
    exact fr.2 167 _ i (by rfl) c1 (by decide)
  · rw [fr.1 _ (by rw [c1]; decide), c1]
    exact fr.2 168 _ i (by rfl) c1 (by decide)
  · rw [fr.1 _ (by rw [c1]; decide), c1]
    exact fr.2 169 _ i (by rfl) c1 (by decide)
theorem ell_155 {E : En} {S : Sg} {G : Gh} {l i : Int} (ci : CI E S G) (hl : S l = 155) (i0 : 0 ≤ i) (i1 : i < G 155 l 2) : S (elm S G 155 l i) = 140 := by
  unfold elm
  rcases ci_L1 ci hl (rfl : G 155 l 1 = _) (rfl : G 155 l 2 = _) i0 i1 with ⟨c1, -, c2⟩ | ⟨c1, -, c2⟩ | ⟨c1, -, c2⟩ | ⟨c1, -, c2⟩ | ⟨c1, -, c2⟩
  · rw [c1]; exact c2
  · rw [c1]; exact c2
  · rw [c1]; exact c2
  · rw [c1]; exact c2
  · rw [c1]; exact c2
def gk156 : List (Int × Int) := [(156, 1), (170, -1), (171, -1), (172, -1)]
theorem elk_156 {E : En} {S S' : Sg} {G G' : Gh} {l i : Int} (ci : CI E S G) (hl : S l = 156) (fr : Frm gk156 S G S' G') (i0 : 0 ≤ i) (i1 : i < G 156 l 2) : elm S' G' 156 l i = elm S G 156 l i := by
  have a1 := fr.2 156 l 1 (by decide) hl (by decide)
  unfold elm
  rw [a1]
  rcases ci_L2 ci hl (rfl : G 156 l 1 = _) (rfl : G 156 l 2 = _) i0 i1 with ⟨c1, -, c2⟩ | ⟨c1, -, c2⟩ | ⟨c1, -, c2⟩
  · rw [fr.1 _ (by rw [c1]; decide), c1]
    exact fr.2 170 _ i (by rfl) c1 (by decide)
  · rw [fr.1 _ (by rw [c1]; decide), c1]
    exact fr.2 171 _ i (by rfl) c1 (by decide)
  · rw [fr.1 _ (by rw [c1]; decide), c1]
    exact fr.2 172 _ i (by rfl) c1 (by decide)
theorem ell_156 {E : En} {S : Sg} {G : Gh} {l i : Int} (ci : CI E S G) (hl : S l = 156) (i0 : 0 ≤ i) (i1 : i < G 156 l 2) : S (elm S G 156 l i) = 137 := by
  unfold elm
  rcases ci_L2 ci hl (rfl : G 156 l 1 = _) (rfl : G 156 l 2 = _) i0 i1 with ⟨c1, -, c2⟩ | ⟨c1, -, c2⟩ | ⟨c1, -, c2⟩
  · rw [c1]; exact c2
  · rw [c1]; exact c2
  · rw [c1]; exact c2
def gk157 : List (Int × Int) := [(157, 1), (173, -1), (174, -1), (175, -1), (176, -1), (177, -1), (178, -1)]
theorem elk_157 {E : En} {S S' : Sg} {G G' : Gh} {l i : Int} (ci : CI E S G) (hl : S l = 157) (fr : Frm gk157 S G S' G') (i0 : 0 ≤ i) (i1 : i < G 157 l 2) : elm S' G' 157 l i = elm S G 157 l i := by
  have a1 := fr.2 157 l 1 (by decide) hl (by decide)
  unfold elm
  rw [a1]
  rcases ci_L3 ci hl (rfl : G 157 l 1 = _) (rfl : G 157 l 2 = _) i0 i1 with ⟨c1, -, c2⟩ | ⟨c1, -, c2⟩ | ⟨c1, -, c2⟩ | ⟨c1, -, c2⟩ | ⟨c1, -, c2⟩ | ⟨c1, -, c2⟩
  · rw [fr.1 _ (by rw [c1]; decide), c1]
    exact fr.2 173 _ i (by rfl) c1 (by decide)
  · rw [fr.1 _ (by rw [c1]; decide), c1]
    exact fr.2 174 _ i (by rfl) c1 (by decide)
  · rw [fr.1 _ (by rw [c1]; decide), c1]
    exact fr.2 175 _ i (by rfl) c1 (by decide)
  · rw [fr.1 _ (by rw [c1]; decide), c1]
    exact fr.2 176 _ i (by rfl) c1 (by decide)
  · rw [fr.1 _ (by rw [c1]; decide), c1]
    exact fr.2 177 _ i (by rfl) c1 (by decide)
  · rw [fr.1 _ (by rw [c1]; decide), c1]
    exact fr.2 178 _ i (by rfl) c1 (by decide)
theorem ell_157 {E : En} {S : Sg} {G : Gh} {l i : Int} (ci : CI E S G) (hl : S l = 157) (i0 : 0 ≤ i) (i1 : i < G 157 l 2) : S (elm S G 157 l i) = 138 := by
  unfold elm
  rcases ci_L3 ci hl (rfl : G 157 l 1 = _) (rfl : G 157 l 2 = _) i0 i1 with ⟨c1, -, c2⟩ | ⟨c1, -, c2⟩ | ⟨c1, -, c2⟩ | ⟨c1, -, c2⟩ | ⟨c1, -, c2⟩ | ⟨c1, -, c2⟩
  · rw [c1]; exact c2
  · rw [c1]; exact c2
  · rw [c1]; exact c2
  · rw [c1]; exact c2
  · rw [c1]; exact c2
  · rw [c1]; exact c2
def gk159 : List (Int × Int) := [(159, 1), (180, -1), (181, -1), (182, -1), (183, -1), (184, -1), (185, -1)]
theorem elk_159 {E : En} {S S' : Sg} {G G' : Gh} {l i : Int} (ci : CI E S G) (hl : S l = 159) (fr : Frm gk159 S G S' G') (i0 : 0 ≤ i) (i1 : i < G 159 l 2) : elm S' G' 159 l i = elm S G 159 l i := by
  have a1 := fr.2 159 l 1 (by decide) hl (by decide)
  unfold elm
  rw [a1]
  rcases ci_L5 ci hl (rfl : G 159 l 1 = _) (rfl : G 159 l 2 = _) i0 i1 with ⟨c1, -, c2⟩ | ⟨c1, -, c2⟩ | ⟨c1, -, c2⟩ | ⟨c1, -, c2⟩ | ⟨c1, -, c2⟩ | ⟨c1, -, c2⟩
  · rw [fr.1 _ (by rw [c1]; decide), c1]
    exact fr.2 180 _ i (by rfl) c1 (by decide)
  · rw [fr.1 _ (by rw [c1]; decide), c1]
    exact fr.2 181 _ i (by rfl) c1 (by decide)
  · rw [fr.1 _ (by rw [c1]; decide), c1]
    exact fr.2 182 _ i (by rfl) c1 (by decide)
  · rw [fr.1 _ (by rw [c1]; decide), c1]
    exact fr.2 183 _ i (by rfl) c1 (by decide)
  · rw [fr.1 _ (by rw [c1]; decide), c1]
    exact fr.2 184 _ i (by rfl) c1 (by decide)
  · rw [fr.1 _ (by rw [c1]; decide), c1]
    exact fr.2 185 _ i (by rfl) c1 (by decide)
theorem ell_159 {E : En} {S : Sg} {G : Gh} {l i : Int} (ci : CI E S G) (hl : S l = 159) (i0 : 0 ≤ i) (i1 : i < G 159 l 2) : S (elm S G 159 l i) = 141 := by
  unfold elm
  rcases ci_L5 ci hl (rfl : G 159 l 1 = _) (rfl : G 159 l 2 = _) i0 i1 with ⟨c1, -, c2⟩ | ⟨c1, -, c2⟩ | ⟨c1, -, c2⟩ | ⟨c1, -, c2⟩ | ⟨c1, -, c2⟩ | ⟨c1, -, c2⟩
  · rw [c1]; exact c2
  · rw [c1]; exact c2
  · rw [c1]; exact c2
  · rw [c1]; exact c2
  · rw [c1]; exact c2
  · rw [c1]; exact c2
section QFR
variable {E : En} {S S' : Sg} {G G' : Gh} {x : Int} {t : Tz}
theorem q6_accounts (h : Q6 S G x) : S (G 128 x 5) = 130 := h.2.1
theorem q6_issues (h : Q6 S G x) : S (G 128 x 6) = 154 := h.2.2.1
theorem q6_trades (h : Q6 S G x) : S (G 128 x 7) = 155 := h.2.2.2.1
theorem q6_events (h : Q6 S G x) : S (G 128 x 8) = 156 := h.2.2.2.2.1
theorem q6_picks (h : Q6 S G x) : S (G 128 x 9) = 157 := h.2.2.2.2.2.1
theorem q6_options (h : Q6 S G x) : S (G 128 x 10) = 158 := h.2.2.2.2.2.2.1
theorem q6_names (h : Q6 S G x) : S (G 128 x 11) = 159 := h.2.2.2.2.2.2.2.1
theorem q6_reader (h : Q6 S G x) : S (G 128 x 16) = 131 := h.2.2.2.2.2.2.2.2.1
theorem q6_run (h : Q6 S G x) : S (G 128 x 17) = 129 := h.2.2.2.2.2.2.2.2.2.1
theorem q6_tape (h : Q6 S G x) : S (G 131 (G 128 x 16) 3) = 105 := h.2.2.2.2.2.2.2.2.2.2
def gs6 : List (Int × Int) := [(128, 5), (128, 6), (128, 7), (128, 8), (128, 9), (128, 10), (128, 11), (128, 16), (128, 17), (131, 3)]
theorem q6_at (h : Q6 S G x) (fr : Frm gs6 S G S' G') : (G' 128 x 5) = (G 128 x 5) ∧ (G' 128 x 6) = (G 128 x 6) ∧ (G' 128 x 7) = (G 128 x 7) ∧ (G' 128 x 8) = (G 128 x 8) ∧ (G' 128 x 9) = (G 128 x 9) ∧ (G' 128 x 10) = (G 128 x 10) ∧ (G' 128 x 11) = (G 128 x 11) ∧ (G' 128 x 16) = (G 128 x 16) ∧ (G' 128 x 17) = (G 128 x 17) ∧ G' 131 (G' 128 x 16) 3 = G 131 (G 128 x 16) 3 := by
  have e16 := fr.2 128 x 16 (by decide) h.1 (by decide)
  refine ⟨fr.2 128 x 5 (by decide) h.1 (by decide), fr.2 128 x 6 (by decide) h.1 (by decide), fr.2 128 x 7 (by decide) h.1 (by decide), fr.2 128 x 8 (by decide) h.1 (by decide), fr.2 128 x 9 (by decide) h.1 (by decide), fr.2 128 x 10 (by decide) h.1 (by decide), fr.2 128 x 11 (by decide) h.1 (by decide), fr.2 128 x 16 (by decide) h.1 (by decide), fr.2 128 x 17 (by decide) h.1 (by decide), ?_⟩
  rw [e16]
  exact fr.2 131 (G 128 x 16) 3 (by decide) (q6_reader h) (by decide)
theorem q6_frm (h : Q6 S G x) (fr : Frm gs6 S G S' G') : Q6 S' G' x := by
  obtain ⟨e0, e1, e2, e3, e4, e5, e6, e7, e8, e9⟩ := q6_at h fr
  have lb : ∀ (a L : Int), S a = L → L ≠ 0 → S' a = L := fun a L ha hL => by rw [fr.1 a (by rw [ha]; exact hL)]; exact ha
  refine ⟨lb x 128 h.1 (by decide), ?_, ?_, ?_, ?_, ?_, ?_, ?_, ?_, ?_, ?_⟩
  · rw [e0]; exact lb _ _ (q6_accounts h) (by decide)
  · rw [e1]; exact lb _ _ (q6_issues h) (by decide)
  · rw [e2]; exact lb _ _ (q6_trades h) (by decide)
  · rw [e3]; exact lb _ _ (q6_events h) (by decide)
  · rw [e4]; exact lb _ _ (q6_picks h) (by decide)
  · rw [e5]; exact lb _ _ (q6_options h) (by decide)
  · rw [e6]; exact lb _ _ (q6_names h) (by decide)
  · rw [e7]; exact lb _ _ (q6_reader h) (by decide)
  · rw [e8]; exact lb _ _ (q6_run h) (by decide)
  · rw [e9]; exact lb _ _ (q6_tape h) (by decide)
def gs0 : List (Int × Int) := [(128, 1), (128, 5), (128, 6), (128, 7), (128, 8), (128, 9), (128, 10), (128, 11), (128, 16), (128, 17), (129, 0), (130, 0), (131, 0), (131, 1), (131, 2), (131, 3), (154, 2), (155, 2), (156, 2), (157, 2), (158, 2), (159, 2)]
theorem q0_frm (h6 : Q6 S G x) (h : Q0 G x t) (fr : Frm gs0 S G S' G') : Q0 G' x t := by
  obtain ⟨e0, e1, e2, e3, e4, e5, e6, e7, e8, -⟩ := q6_at h6 (fr.sub rfl)
  unfold Q0 at *
  rw [e0, e1, e2, e3, e4, e5, e6, e7, e8]
  rw [fr.2 130 (G 128 x 5) 0 (by decide) (q6_accounts h6) (by decide), fr.2 154 (G 128 x 6) 2 (by decide) (q6_issues h6) (by decide), fr.2 155 (G 128 x 7) 2 (by decide) (q6_trades h6) (by decide), fr.2 156 (G 128 x 8) 2 (by decide) (q6_events h6) (by decide), fr.2 157 (G 128 x 9) 2 (by decide) (q6_picks h6) (by decide), fr.2 158 (G 128 x 10) 2 (by decide) (q6_options h6) (by decide), fr.2 159 (G 128 x 11) 2 (by decide) (q6_names h6) (by decide), fr.2 128 x 1 (by decide) h6.1 (by decide), fr.2 131 (G 128 x 16) 0 (by decide) (q6_reader h6) (by decide), fr.2 129 (G 128 x 17) 0 (by decide) (q6_run h6) (by decide), fr.2 131 (G 128 x 16) 1 (by decide) (q6_reader h6) (by decide), fr.2 131 (G 128 x 16) 2 (by decide) (q6_reader h6) (by decide)]
  exact h
def gs1 : List (Int × Int) := [(128, 5), (128, 6), (128, 7), (128, 8), (128, 9), (128, 10), (128, 11), (128, 16), (128, 17), (131, 3), (140, 1), (155, 1), (155, 2), (165, -1), (166, -1), (167, -1), (168, -1), (169, -1)]
theorem elm_trades (ci : CI E S G) (h6 : Q6 S G x) (fr : Frm gs1 S G S' G') {i : Int} (i0 : 0 ≤ i) (i1 : i < G 155 (G 128 x 7) 2) : elm S' G' 155 (G 128 x 7) i = elm S G 155 (G 128 x 7) i ∧ S (elm S G 155 (G 128 x 7) i) = 140 := by
  have a1 := fr.2 155 (G 128 x 7) 1 (by decide) (q6_trades h6) (by decide)
  unfold elm
  rw [a1]
  rcases ci_L1 ci (q6_trades h6) (rfl : G 155 (G 128 x 7) 1 = _) (rfl : G 155 (G 128 x 7) 2 = _) i0 i1 with ⟨c1, -, c2⟩ | ⟨c1, -, c2⟩ | ⟨c1, -, c2⟩ | ⟨c1, -, c2⟩ | ⟨c1, -, c2⟩
  · rw [fr.1 _ (by rw [c1]; decide), c1]
    exact ⟨fr.2 165 _ i (by rfl) c1 (by decide), c2⟩
  · rw [fr.1 _ (by rw [c1]; decide), c1]
    exact ⟨fr.2 166 _ i (by rfl) c1 (by decide), c2⟩
  · rw [fr.1 _ (by rw [c1]; decide), c1]
    exact ⟨fr.2 167 _ i (by rfl) c1 (by decide), c2⟩
  · rw [fr.1 _ (by rw [c1]; decide), c1]
    exact ⟨fr.2 168 _ i (by rfl) c1 (by decide), c2⟩
  · rw [fr.1 _ (by rw [c1]; decide), c1]
    exact ⟨fr.2 169 _ i (by rfl) c1 (by decide), c2⟩
theorem q1_frm (ci : CI E S G) (h6 : Q6 S G x) (h : Q1 S G x t) (fr : Frm gs1 S G S' G') : Q1 S' G' x t := by
  obtain ⟨e0, e1, e2, e3, e4, e5, e6, e7, e8, -⟩ := q6_at h6 (fr.sub rfl)
  intro i i0 i1
  rw [e2] at i1 ⊢
  rw [fr.2 155 (G 128 x 7) 2 (by decide) (q6_trades h6) (by decide)] at i1
  obtain ⟨m1, m2⟩ := elm_trades ci h6 fr i0 i1
  rw [m1]
  have q := h i i0 i1
  rw [fr.2 140 _ 1 (by decide) m2 (by decide)]
  exact q
def gs2 : List (Int × Int) := [(128, 5), (128, 6), (128, 7), (128, 8), (128, 9), (128, 10), (128, 11), (128, 16), (128, 17), (131, 3), (131, 9), (136, 1), (136, 2), (137, 1), (137, 3), (156, 1), (156, 2), (170, -1), (171, -1), (172, -1)]
theorem elm_events (ci : CI E S G) (h6 : Q6 S G x) (fr : Frm gs2 S G S' G') {i : Int} (i0 : 0 ≤ i) (i1 : i < G 156 (G 128 x 8) 2) : elm S' G' 156 (G 128 x 8) i = elm S G 156 (G 128 x 8) i ∧ S (elm S G 156 (G 128 x 8) i) = 137 := by
  have a1 := fr.2 156 (G 128 x 8) 1 (by decide) (q6_events h6) (by decide)
  unfold elm
  rw [a1]
  rcases ci_L2 ci (q6_events h6) (rfl : G 156 (G 128 x 8) 1 = _) (rfl : G 156 (G 128 x 8) 2 = _) i0 i1 with ⟨c1, -, c2⟩ | ⟨c1, -, c2⟩ | ⟨c1, -, c2⟩
  · rw [fr.1 _ (by rw [c1]; decide), c1]
    exact ⟨fr.2 170 _ i (by rfl) c1 (by decide), c2⟩
  · rw [fr.1 _ (by rw [c1]; decide), c1]
    exact ⟨fr.2 171 _ i (by rfl) c1 (by decide), c2⟩
  · rw [fr.1 _ (by rw [c1]; decide), c1]
    exact ⟨fr.2 172 _ i (by rfl) c1 (by decide), c2⟩
theorem q2_frm (ci : CI E S G) (h6 : Q6 S G x) (h : Q2 S G x t) (fr : Frm gs2 S G S' G') : Q2 S' G' x t := by
  obtain ⟨e0, e1, e2, e3, e4, e5, e6, e7, e8, -⟩ := q6_at h6 (fr.sub rfl)
  intro i i0 i1
  rw [e3] at i1 ⊢
  rw [fr.2 156 (G 128 x 8) 2 (by decide) (q6_events h6) (by decide)] at i1
  obtain ⟨m1, m2⟩ := elm_events ci h6 fr i0 i1
  rw [m1]
  have q := h i i0 i1
  obtain ⟨q1, q2, q3, q4, q5⟩ := q
  have f3 := fr.2 137 _ 3 (by decide) m2 (by decide)
  rw [e7, f3, fr.2 137 _ 1 (by decide) m2 (by decide), fr.2 136 _ 1 (by decide) q2 (by decide), fr.2 136 _ 2 (by decide) q2 (by decide), fr.2 131 _ 9 (by decide) (q6_reader h6) (by decide)]
  exact ⟨q1, by rw [fr.1 _ (by rw [q2]; decide)]; exact q2, q3, q4, q5⟩
def gs3 : List (Int × Int) := [(128, 5), (128, 6), (128, 7), (128, 8), (128, 9), (128, 10), (128, 11), (128, 16), (128, 17), (131, 3), (138, 1), (157, 1), (157, 2), (173, -1), (174, -1), (175, -1), (176, -1), (177, -1), (178, -1)]
theorem elm_picks (ci : CI E S G) (h6 : Q6 S G x) (fr : Frm gs3 S G S' G') {i : Int} (i0 : 0 ≤ i) (i1 : i < G 157 (G 128 x 9) 2) : elm S' G' 157 (G 128 x 9) i = elm S G 157 (G 128 x 9) i ∧ S (elm S G 157 (G 128 x 9) i) = 138 := by
  have a1 := fr.2 157 (G 128 x 9) 1 (by decide) (q6_picks h6) (by decide)
  unfold elm
  rw [a1]
  rcases ci_L3 ci (q6_picks h6) (rfl : G 157 (G 128 x 9) 1 = _) (rfl : G 157 (G 128 x 9) 2 = _) i0 i1 with ⟨c1, -, c2⟩ | ⟨c1, -, c2⟩ | ⟨c1, -, c2⟩ | ⟨c1, -, c2⟩ | ⟨c1, -, c2⟩ | ⟨c1, -, c2⟩
  · rw [fr.1 _ (by rw [c1]; decide), c1]
    exact ⟨fr.2 173 _ i (by rfl) c1 (by decide), c2⟩
  · rw [fr.1 _ (by rw [c1]; decide), c1]
    exact ⟨fr.2 174 _ i (by rfl) c1 (by decide), c2⟩
  · rw [fr.1 _ (by rw [c1]; decide), c1]
    exact ⟨fr.2 175 _ i (by rfl) c1 (by decide), c2⟩
  · rw [fr.1 _ (by rw [c1]; decide), c1]
    exact ⟨fr.2 176 _ i (by rfl) c1 (by decide), c2⟩
  · rw [fr.1 _ (by rw [c1]; decide), c1]
    exact ⟨fr.2 177 _ i (by rfl) c1 (by decide), c2⟩
  · rw [fr.1 _ (by rw [c1]; decide), c1]
    exact ⟨fr.2 178 _ i (by rfl) c1 (by decide), c2⟩
theorem q3_frm (ci : CI E S G) (h6 : Q6 S G x) (h : Q3 S G x t) (fr : Frm gs3 S G S' G') : Q3 S' G' x t := by
  obtain ⟨e0, e1, e2, e3, e4, e5, e6, e7, e8, -⟩ := q6_at h6 (fr.sub rfl)
  intro i i0 i1
  rw [e4] at i1 ⊢
  rw [fr.2 157 (G 128 x 9) 2 (by decide) (q6_picks h6) (by decide)] at i1
  obtain ⟨m1, m2⟩ := elm_picks ci h6 fr i0 i1
  rw [m1]
  have q := h i i0 i1
  rw [fr.2 138 _ 1 (by decide) m2 (by decide)]
  exact q
def gs4 : List (Int × Int) := [(128, 5), (128, 6), (128, 7), (128, 8), (128, 9), (128, 10), (128, 11), (128, 16), (128, 17), (131, 3), (141, 0), (141, 1), (141, 2), (141, 3), (141, 4), (159, 1), (159, 2), (180, -1), (181, -1), (182, -1), (183, -1), (184, -1), (185, -1)]
theorem elm_names (ci : CI E S G) (h6 : Q6 S G x) (fr : Frm gs4 S G S' G') {i : Int} (i0 : 0 ≤ i) (i1 : i < G 159 (G 128 x 11) 2) : elm S' G' 159 (G 128 x 11) i = elm S G 159 (G 128 x 11) i ∧ S (elm S G 159 (G 128 x 11) i) = 141 := by
  have a1 := fr.2 159 (G 128 x 11) 1 (by decide) (q6_names h6) (by decide)
  unfold elm
  rw [a1]
  rcases ci_L5 ci (q6_names h6) (rfl : G 159 (G 128 x 11) 1 = _) (rfl : G 159 (G 128 x 11) 2 = _) i0 i1 with ⟨c1, -, c2⟩ | ⟨c1, -, c2⟩ | ⟨c1, -, c2⟩ | ⟨c1, -, c2⟩ | ⟨c1, -, c2⟩ | ⟨c1, -, c2⟩
  · rw [fr.1 _ (by rw [c1]; decide), c1]
    exact ⟨fr.2 180 _ i (by rfl) c1 (by decide), c2⟩
  · rw [fr.1 _ (by rw [c1]; decide), c1]
    exact ⟨fr.2 181 _ i (by rfl) c1 (by decide), c2⟩
  · rw [fr.1 _ (by rw [c1]; decide), c1]
    exact ⟨fr.2 182 _ i (by rfl) c1 (by decide), c2⟩
  · rw [fr.1 _ (by rw [c1]; decide), c1]
    exact ⟨fr.2 183 _ i (by rfl) c1 (by decide), c2⟩
  · rw [fr.1 _ (by rw [c1]; decide), c1]
    exact ⟨fr.2 184 _ i (by rfl) c1 (by decide), c2⟩
  · rw [fr.1 _ (by rw [c1]; decide), c1]
    exact ⟨fr.2 185 _ i (by rfl) c1 (by decide), c2⟩
theorem q4_frm (ci : CI E S G) (h6 : Q6 S G x) (h : Q4 S G x t) (fr : Frm gs4 S G S' G') : Q4 S' G' x t := by
  obtain ⟨e0, e1, e2, e3, e4, e5, e6, e7, e8, -⟩ := q6_at h6 (fr.sub rfl)
  intro i i0 i1
  rw [e6] at i1 ⊢
  rw [fr.2 159 (G 128 x 11) 2 (by decide) (q6_names h6) (by decide)] at i1
  obtain ⟨m1, m2⟩ := elm_names ci h6 fr i0 i1
  rw [m1]
  have q := h i i0 i1
  rw [fr.2 141 _ 2 (by decide) m2 (by decide), fr.2 141 _ 3 (by decide) m2 (by decide), fr.2 141 _ 4 (by decide) m2 (by decide), fr.2 141 _ 0 (by decide) m2 (by decide), fr.2 141 _ 1 (by decide) m2 (by decide)]
  exact q
def gs5 : List (Int × Int) := [(105, -1), (128, 5), (128, 6), (128, 7), (128, 8), (128, 9), (128, 10), (128, 11), (128, 16), (128, 17), (131, 0), (131, 3)]
theorem q5_frm (h6 : Q6 S G x) (h : Q5 G x t) (fr : Frm gs5 S G S' G') : Q5 G' x t := by
  obtain ⟨e0, e1, e2, e3, e4, e5, e6, e7, e8, e9⟩ := q6_at h6 (fr.sub rfl)
  intro i i0 i1
  rw [e9]
  rw [e7] at i1
  rw [fr.2 131 (G 128 x 16) 0 (by decide) (q6_reader h6) (by decide)] at i1
  rw [fr.2 105 _ i (by rfl) (q6_tape h6) (by decide)]
  exact h i i0 i1
def gs7 : List (Int × Int) := [(128, 5), (128, 6), (128, 7), (128, 8), (128, 9), (128, 10), (128, 11), (128, 16), (128, 17), (131, 3), (131, 9), (131, 15), (131, 16), (136, 9), (136, 10)]
theorem q7_frm (h6 : Q6 S G x) (h : Q7 S G x) (fr : Frm gs7 S G S' G') : Q7 S' G' x := by
  obtain ⟨e0, e1, e2, e3, e4, e5, e6, e7, e8, -⟩ := q6_at h6 (fr.sub rfl)
  unfold Q7 at *
  rw [e7, fr.2 131 _ 15 (by decide) (q6_reader h6) (by decide), fr.2 131 _ 16 (by decide) (q6_reader h6) (by decide), fr.2 131 _ 9 (by decide) (q6_reader h6) (by decide)]
  refine ⟨h.1, fun p => ?_⟩
  obtain ⟨a, b⟩ := h.2 p
  rw [fr.2 136 _ 9 (by decide) a (by decide), fr.2 136 _ 10 (by decide) a (by decide)]
  exact ⟨by rw [fr.1 _ (by rw [a]; decide)]; exact a, b⟩
theorem d1_frm (ci : CI E S G) (h6 : Q6 S G x) (h : D1 S G x) (fr : Frm gs1 S G S' G') : D1 S' G' x := by
  obtain ⟨e0, e1, e2, e3, e4, e5, e6, e7, e8, -⟩ := q6_at h6 (fr.sub rfl)
  intro i j i0 ij j1
  rw [e2] at j1 ⊢
  rw [fr.2 155 (G 128 x 7) 2 (by decide) (q6_trades h6) (by decide)] at j1
  rw [(elm_trades ci h6 fr i0 (by first | decide | omega)).1, (elm_trades ci h6 fr (by first | decide | omega) j1).1]
  exact h i j i0 ij j1
theorem d2_frm (ci : CI E S G) (h6 : Q6 S G x) (h : D2 S G x) (fr : Frm gs2 S G S' G') : D2 S' G' x := by
  obtain ⟨e0, e1, e2, e3, e4, e5, e6, e7, e8, -⟩ := q6_at h6 (fr.sub rfl)
  intro i j i0 ij j1
  rw [e3] at j1 ⊢
  rw [fr.2 156 (G 128 x 8) 2 (by decide) (q6_events h6) (by decide)] at j1
  rw [(elm_events ci h6 fr i0 (by first | decide | omega)).1, (elm_events ci h6 fr (by first | decide | omega) j1).1]
  exact h i j i0 ij j1
theorem d3_frm (ci : CI E S G) (h6 : Q6 S G x) (h : D3 S G x) (fr : Frm gs3 S G S' G') : D3 S' G' x := by
  obtain ⟨e0, e1, e2, e3, e4, e5, e6, e7, e8, -⟩ := q6_at h6 (fr.sub rfl)
  intro i j i0 ij j1
  rw [e4] at j1 ⊢
  rw [fr.2 157 (G 128 x 9) 2 (by decide) (q6_picks h6) (by decide)] at j1
  rw [(elm_picks ci h6 fr i0 (by first | decide | omega)).1, (elm_picks ci h6 fr (by first | decide | omega) j1).1]
  exact h i j i0 ij j1
def gsA : List (Int × Int) := [(105, -1), (128, 1), (128, 5), (128, 6), (128, 7), (128, 8), (128, 9), (128, 10), (128, 11), (128, 16), (128, 17), (129, 0), (130, 0), (131, 0), (131, 1), (131, 2), (131, 3), (131, 9), (131, 15), (131, 16), (136, 1), (136, 2), (136, 9), (136, 10), (137, 1), (137, 3), (138, 1), (140, 1), (141, 0), (141, 1), (141, 2), (141, 3), (141, 4), (154, 2), (155, 1), (155, 2), (156, 1), (156, 2), (157, 1), (157, 2), (158, 2), (159, 1), (159, 2), (165, -1), (166, -1), (167, -1), (168, -1), (169, -1), (170, -1), (171, -1), (172, -1), (173, -1), (174, -1), (175, -1), (176, -1), (177, -1), (178, -1), (180, -1), (181, -1), (182, -1), (183, -1), (184, -1), (185, -1)]
theorem relc_frm (ci : CI E S G) (h : RelC S G x t) (fr : Frm gsA S G S' G') : RelC S' G' x t := by
  obtain ⟨h6, h0, h1, h2, h3, h4, h5, h7, d1, d2, d3⟩ := h
  exact ⟨q6_frm h6 (fr.sub rfl), q0_frm h6 h0 (fr.sub rfl), q1_frm ci h6 h1 (fr.sub rfl), q2_frm ci h6 h2 (fr.sub rfl), q3_frm ci h6 h3 (fr.sub rfl), q4_frm ci h6 h4 (fr.sub rfl), q5_frm h6 h5 (fr.sub rfl), q7_frm h6 h7 (fr.sub rfl), d1_frm ci h6 d1 (fr.sub rfl), d2_frm ci h6 d2 (fr.sub rfl), d3_frm ci h6 d3 (fr.sub rfl)⟩
end QFR
