/-! THE CLAIM OUT OF ONE WALK OF THE LAW'S BODY. Your part is whole_start (and what it stands on); all else here is the same for every law, but numbers. -/
def R_law : String := "ShareLifeLaw"
def lw_P (b : Addr) (xs : List Int32) (args : Array Value) (s : State) : Prop := args = #[.ref b] ∧ s.IntsAt b xs ∧ xs.length ≤ 4096 ∧ (Jvm.Cond.and given_1 narrow_1).before args s = true
def lw_Q (_ : Array Value) (s : State) (o : Outcome) (t : State) : Prop := o = .returned (some (.int 1)) ∧ Framed s o t [] 600000 7302250
def lw_Z (below : List Frame) (a : Array Value) (s : State) : State → Prop := fun t => ∃ o, t.status = .running ∧ Ended t below o ∧ lw_Q a s o t
/-- what holds at the law's entry: the machine, the code, the tables' words (any of lw_tbl by 'hts w (by decide +kernel)'), the script of L ints xs at the cell b, what the Statement gives of the start (any of its parts by flat_of_before) -/
def lw_At (p : Program) (s : State) (m : MethodId) (meth : Method) (c : Code) (b L : Nat) (xs : Nat → Int32) : Prop :=
  p.tables.exec = Jvm.exec ∧ c.code = code ∧ meth.sig.returnType = ret ∧ c.maxLocals = 4 ∧ s.vm.findClass R_law = some m.cls ∧ (∀ w ∈ lw_tbl, w.before #[Value.ref b] s = true) ∧ va_X b L xs s s.heap ∧ b < s.heap.size ∧ meth.locks = false ∧ (Jvm.Cond.and given_1 narrow_1).before #[Value.ref b] s = true
/-! THE LAW: rules of its own -/
abbrev mL (nm : String) : Mk := (⟨"ShareLifeLaw", nm, "([I)Z"⟩, code, 4, some .boolean)
theorem W_chg {p : Program} {l : Launch} {e : Env} {R R' : Room} {s : State} {m : MethodId} {args : Array Value} {below : List Frame} {meth : Method} {c : Code} {H : Heap} {locs : List Loc} {cells slots : Nat} {Q Q' : State → Prop} {g : JFrame} (hr : ∀ pl, s.hasRoom pl R = true → s.hasRoom pl R' = true) (hq : ∀ t, Q t → Q' t) (h : W p l e R' s m args below meth c H locs cells slots Q g) : W p l e R s m args below meth c H locs cells slots Q' g := by
  intro T hT X
  obtain ⟨t, a, b⟩ := h T hT { X with room := hr _ X.room }
  exact ⟨t, a, hq t b⟩
theorem room_ok {s : State} (pl : Platform) (h : s.hasRoom pl room_1 = true) : s.hasRoom pl (rm_ 840 600000 7302250) = true := by
  simp only [State.hasRoom, Bool.and_eq_true, decide_eq_true_eq] at h ⊢
  have e1 : room_1.locals = 84000 := rfl
  have e2 : room_1.frames = 2048 := rfl
  have e3 : room_1.cells = 600000 := rfl
  have e4 : room_1.slots = 7302250 := rfl
  have f1 : (rm_ 840 600000 7302250).locals = 84000 := rfl
  have f2 : (rm_ 840 600000 7302250).frames = 840 := rfl
  have f3 : (rm_ 840 600000 7302250).cells = 600000 := rfl
  have f4 : (rm_ 840 600000 7302250).slots = 7302250 := rfl
  rw [e1, e2, e3, e4] at h
  rw [f1, f2, f3, f4]
  obtain ⟨⟨⟨⟨h1, h2, h3, h4, h5, h6⟩, h7⟩, h8⟩, h9⟩ := h
  exact ⟨⟨⟨⟨h1, by omega, by omega, h4, h5, h6⟩, h7⟩, h8⟩, h9⟩
def Yl : Option Vl → Sg → Gh → Prop := fun r _ _ => r = some (0, 1)
theorem end_ok {E : En} {below : List Frame} {s : State} {b : Nat} {t : State} (hE : E.2.2.2.1 = s.heap.size) (h : MQ below (Qq E Yl) #[Value.ref b] s 600000 7302250 (fun q => E.2.2.2.1 ≤ q) t) : lw_Z below #[Value.ref b] s t := by
  obtain ⟨o, h1, h2, ⟨r, S', G', h3, h4, -⟩, L, ⟨h5, h6, h7⟩, h8⟩ := h
  have h4 : r = some (0, 1) := h4
  subst h4
  subst h3
  refine ⟨_, h1, h2, rfl, ⟨_, rfl⟩, h6, h7.weaken (fun y hy hlt => ?_) (Nat.le_refl _) (Nat.le_refl _)⟩
  have := h8 y hy
  rw [hE] at this
  exact absurd hlt (Nat.not_lt.mpr this)
/-- the law's own script, and its length -/
def Scr (X : Xp) (b L : Nat) (sv : Int → Int) : Prop := (∀ i : Int, -2147483648 ≤ sv i ∧ sv i ≤ 2147483647) ∧ (∀ (P : Cod) (cs ss pc : Nat) (st : List Vl) (lo : Lo) (S : Sg) (G : Gh) (i : Int), Dec code P → fd P pc = some (.iaload, 1) → 0 ≤ i → i < L → X cs ss (pc + 1) ((0, sv i) :: st) lo S G → X cs ss pc ((0, i) :: (2, (b : Int)) :: st) lo S G) ∧ ∀ (P : Cod) (cs ss pc : Nat) (st : List Vl) (lo : Lo) (S : Sg) (G : Gh), Dec code P → fd P pc = some (.arraylength, 1) → X cs ss (pc + 1) ((0, (L : Int)) :: st) lo S G → X cs ss pc ((2, (b : Int)) :: st) lo S G
theorem scr_rd {X : Xp} {b L : Nat} {sv : Int → Int} (h : Scr X b L sv) {P : Cod} {cs ss pc : Nat} {st : List Vl} {lo : Lo} {S : Sg} {G : Gh} {i : Int} (hP : Dec code P) (hf : fd P pc = some (.iaload, 1)) (i0 : 0 ≤ i) (i1 : i < L) (k : X cs ss (pc + 1) ((0, sv i) :: st) lo S G) : X cs ss pc ((0, i) :: (2, (b : Int)) :: st) lo S G := h.2.1 P cs ss pc st lo S G i hP hf i0 i1 k
theorem scr_ln {X : Xp} {b L : Nat} {sv : Int → Int} (h : Scr X b L sv) {P : Cod} {cs ss pc : Nat} {st : List Vl} {lo : Lo} {S : Sg} {G : Gh} (hP : Dec code P) (hf : fd P pc = some (.arraylength, 1)) (k : X cs ss (pc + 1) ((0, (L : Int)) :: st) lo S G) : X cs ss pc ((2, (b : Int)) :: st) lo S G := h.2.2 P cs ss pc st lo S G hP hf k
section RLW
variable {E : En} {M : Mk} {as : List Vl} {d mc ms : Nat} {Y : Option Vl → Sg → Gh → Prop} {X : Xp} {cs ss : Nat} {S : Sg} {G : Gh} {pc : Nat} {st : List Vl} {lo : Lo}
/-- the reference's rows stand at their places -/
theorem r_adl (hX : Cl E M as d mc ms Y X) (hm : S (Ad E 1) = 1) (k : (∀ q ∈ mTB, S (Ad E q.2) = q.2) → X cs ss pc st lo S G) : X cs ss pc st lo S G := by
  obtain ⟨p, e, z, m, below, meth, c, hx, hb, hr, hml, hown, hlk, hnm, hts, hK, rfl⟩ := hX
  intro H locs ls hR hz hL' hl
  refine k (fun q hq => ?_) H locs ls hR hz hL' hl
  have h := (hR.2.2 (Ad E 1) (by rw [hm]; decide)).2.2
  rw [hm] at h
  obtain ⟨-, h2⟩ := h
  have c1 : (mTB.all fun q => decide (0 ≤ q.1) && decide (q.1.toNat < 138) && decide (fs_1.getD q.1.toNat (0, 0, 0) = (4, q.2, 0)) && decide (q.2 ≠ 0)) = true := by decide +kernel
  have c2 := List.all_eq_true.mp c1 q hq
  simp only [Bool.and_eq_true, decide_eq_true_eq] at c2
  have h3 := h2 q.1.toNat c2.1.1.2
  rw [show (fs_1.getD q.1.toNat (0, 0, 0)) = (4, q.2, 0) from c2.1.2] at h3
  rw [← h3.1]
  exact h3.2.1
end RLW
theorem mi_gr {E : En} {S S' : Sg} {G G' : Gh} {nl : List Int} {ws : List (Int × Int)} (h : MI E G) (hm : S (Ad E 1) = 1) (adl : ∀ q ∈ mTB, S (Ad E q.2) = q.2) (g : Gr nl ws S G S' G') (c : ws.all (fun q => decide (92 < q.1)) = true) : MI E G' := by
  have at_ : ∀ (L j : Int), L ≤ 92 → L ≠ 0 → S (Ad E L) = L → G' L (Ad E L) j = G L (Ad E L) j := by
    intro L j hL h0 hs
    refine gr_at g hs h0 ?_
    cases e : inm ws L j with
    | false => rfl
    | true =>
      exfalso
      obtain ⟨p, hp, e1, -⟩ := inm_iff.mp e
      have := of_decide_eq_true (List.all_eq_true.mp c p hp)
      omega
  exact mi_keep h (at_ 1 6 (by decide) (by decide) hm) (at_ 1 8 (by decide) (by decide) hm) (at_ 1 13 (by decide) (by decide) hm) (at_ 1 10 (by decide) (by decide) hm) (at_ 1 11 (by decide) (by decide) hm) (at_ 1 9 (by decide) (by decide) hm) (fun i => at_ 2 i (by decide) (by decide) (adl (14, 2) (by decide))) (fun i => at_ 14 i (by decide) (by decide) (adl (26, 14) (by decide))) (fun i => at_ 58 i (by decide) (by decide) (adl (70, 58) (by decide))) (fun i => at_ 59 i (by decide) (by decide) (adl (71, 59) (by decide))) (fun i => at_ 39 i (by decide) (by decide) (adl (51, 39) (by decide))) (fun i => at_ 46 i (by decide) (by decide) (adl (58, 46) (by decide))) (fun i => at_ 47 i (by decide) (by decide) (adl (59, 47) (by decide))) (fun i => at_ 26 i (by decide) (by decide) (adl (38, 26) (by decide))) (fun i => at_ 29 i (by decide) (by decide) (adl (41, 29) (by decide))) (fun i => at_ 30 i (by decide) (by decide) (adl (42, 30) (by decide))) (fun i => at_ 31 i (by decide) (by decide) (adl (43, 31) (by decide))) (fun i => at_ 33 i (by decide) (by decide) (adl (45, 33) (by decide))) (fun i => at_ 34 i (by decide) (by decide) (adl (46, 34) (by decide)))
theorem co_X11_status : Co mX11_status 0 := ⟨(tbg sg2 212 rfl rfl), (tbg sg1 1 rfl rfl), by decide, by decide, by decide +kernel, by decide⟩
theorem co_X12_status : Co mX12_status 0 := ⟨(tbg sg9 69 rfl rfl), (tbg sg1 10 rfl rfl), by decide, by decide, by decide +kernel, by decide⟩
theorem co_X11_asof : Co mX11_asof 1 := ⟨(tbg sg2 216 rfl rfl), (tbg sg1 1 rfl rfl), by decide, by decide, by decide +kernel, by decide⟩
theorem co_X12_asof : Co mX12_asof 1 := ⟨(tbg sg9 73 rfl rfl), (tbg sg1 10 rfl rfl), by decide, by decide, by decide +kernel, by decide⟩
theorem co_X11_account : Co mX11_account 3 := ⟨(tbg sg2 231 rfl rfl), (tbg sg1 1 rfl rfl), by decide, by decide, by decide +kernel, by decide⟩
theorem co_X12_account : Co mX12_account 3 := ⟨(tbg sg9 87 rfl rfl), (tbg sg1 10 rfl rfl), by decide, by decide, by decide +kernel, by decide⟩
theorem co_X11_issue : Co mX11_issue 6 := ⟨(tbg sg3 6 rfl rfl), (tbg sg1 1 rfl rfl), by decide, by decide, by decide +kernel, by decide⟩
theorem co_X12_issue : Co mX12_issue 6 := ⟨(tbg sg9 99 rfl rfl), (tbg sg1 10 rfl rfl), by decide, by decide, by decide +kernel, by decide⟩
theorem co_X11_trade : Co mX11_trade 7 := ⟨(tbg sg3 136 rfl rfl), (tbg sg1 1 rfl rfl), by decide, by decide, by decide +kernel, by decide⟩
theorem co_X12_trade : Co mX12_trade 7 := ⟨(tbg sg9 108 rfl rfl), (tbg sg1 10 rfl rfl), by decide, by decide, by decide +kernel, by decide⟩
theorem co_X11_feed : Co mX11_feed 5 := ⟨(tbg sg3 140 rfl rfl), (tbg sg1 1 rfl rfl), by decide, by decide, by decide +kernel, by decide⟩
theorem co_X12_feed : Co mX12_feed 5 := ⟨(tbg sg9 113 rfl rfl), (tbg sg1 10 rfl rfl), by decide, by decide, by decide +kernel, by decide⟩
theorem co_X11_event : Co mX11_event 6 := ⟨(tbg sg3 148 rfl rfl), (tbg sg1 1 rfl rfl), by decide, by decide, by decide +kernel, by decide⟩
theorem co_X12_event : Co mX12_event 6 := ⟨(tbg sg9 121 rfl rfl), (tbg sg1 10 rfl rfl), by decide, by decide, by decide +kernel, by decide⟩
theorem co_X11_fault : Co mX11_fault 1 := ⟨(tbg sg4 236 rfl rfl), (tbg sg1 1 rfl rfl), by decide, by decide, by decide +kernel, by decide⟩
theorem co_X12_fault : Co mX12_fault 1 := ⟨(tbg sg9 219 rfl rfl), (tbg sg1 10 rfl rfl), by decide, by decide, by decide +kernel, by decide⟩
theorem co_X11_choices : Co mX11_choices 1 := ⟨(tbg sg5 0 rfl rfl), (tbg sg1 1 rfl rfl), by decide, by decide, by decide +kernel, by decide⟩
theorem co_X12_choices : Co mX12_choices 1 := ⟨(tbg sg9 223 rfl rfl), (tbg sg1 10 rfl rfl), by decide, by decide, by decide +kernel, by decide⟩
theorem co_X11_choose : Co mX11_choose 5 := ⟨(tbg sg5 20 rfl rfl), (tbg sg1 1 rfl rfl), by decide, by decide, by decide +kernel, by decide⟩
theorem co_X12_choose : Co mX12_choose 5 := ⟨(tbg sg9 231 rfl rfl), (tbg sg1 10 rfl rfl), by decide, by decide, by decide +kernel, by decide⟩
theorem co_X11_strike : Co mX11_strike 3 := ⟨(tbg sg5 54 rfl rfl), (tbg sg1 1 rfl rfl), by decide, by decide, by decide +kernel, by decide⟩
theorem co_X12_strike : Co mX12_strike 3 := ⟨(tbg sg9 235 rfl rfl), (tbg sg1 10 rfl rfl), by decide, by decide, by decide +kernel, by decide⟩
theorem co_X11_own : Co mX11_own 3 := ⟨(tbg sg5 71 rfl rfl), (tbg sg1 1 rfl rfl), by decide, by decide, by decide +kernel, by decide⟩
theorem co_X12_own : Co mX12_own 3 := ⟨(tbg sg10 35 rfl rfl), (tbg sg1 10 rfl rfl), by decide, by decide, by decide +kernel, by decide⟩
theorem co_X11_total : Co mX11_total 3 := ⟨(tbg sg5 225 rfl rfl), (tbg sg1 1 rfl rfl), by decide, by decide, by decide +kernel, by decide⟩
theorem co_X12_total : Co mX12_total 3 := ⟨(tbg sg10 128 rfl rfl), (tbg sg1 10 rfl rfl), by decide, by decide, by decide +kernel, by decide⟩
theorem co_X11_worth : Co mX11_worth 3 := ⟨(tbg sg5 230 rfl rfl), (tbg sg1 1 rfl rfl), by decide, by decide, by decide +kernel, by decide⟩
theorem co_X12_worth : Co mX12_worth 3 := ⟨(tbg sg10 132 rfl rfl), (tbg sg1 10 rfl rfl), by decide, by decide, by decide +kernel, by decide⟩
theorem co_X11_coin : Co mX11_coin 3 := ⟨(tbg sg5 235 rfl rfl), (tbg sg1 1 rfl rfl), by decide, by decide, by decide +kernel, by decide⟩
theorem co_X12_coin : Co mX12_coin 3 := ⟨(tbg sg10 136 rfl rfl), (tbg sg1 10 rfl rfl), by decide, by decide, by decide +kernel, by decide⟩
theorem co_X11_chosen : Co mX11_chosen 2 := ⟨(tbg sg5 239 rfl rfl), (tbg sg1 1 rfl rfl), by decide, by decide, by decide +kernel, by decide⟩
theorem co_X12_chosen : Co mX12_chosen 2 := ⟨(tbg sg9 239 rfl rfl), (tbg sg1 10 rfl rfl), by decide, by decide, by decide +kernel, by decide⟩
theorem co_X11_stays : Co mX11_stays 3 := ⟨(tbg sg6 10 rfl rfl), (tbg sg1 1 rfl rfl), by decide, by decide, by decide +kernel, by decide⟩
theorem co_X12_stays_ : Co mX12_stays_ 3 := ⟨(tbg sg10 140 rfl rfl), (tbg sg1 10 rfl rfl), by decide, by decide, by decide +kernel, by decide⟩
theorem co_X11_bears : Co mX11_bears 1 := ⟨(tbg sg6 14 rfl rfl), (tbg sg1 1 rfl rfl), by decide, by decide, by decide +kernel, by decide⟩
theorem co_X12_bears : Co mX12_bears 1 := ⟨(tbg sg10 27 rfl rfl), (tbg sg1 10 rfl rfl), by decide, by decide, by decide +kernel, by decide⟩
theorem co_X11_done : Co mX11_done 1 := ⟨(tbg sg6 28 rfl rfl), (tbg sg1 1 rfl rfl), by decide, by decide, by decide +kernel, by decide⟩
theorem co_X12_done : Co mX12_done 1 := ⟨(tbg sg10 144 rfl rfl), (tbg sg1 10 rfl rfl), by decide, by decide, by decide +kernel, by decide⟩
theorem co_X11_due : Co mX11_due 3 := ⟨(tbg sg6 35 rfl rfl), (tbg sg1 1 rfl rfl), by decide, by decide, by decide +kernel, by decide⟩
theorem co_X12_due : Co mX12_due 3 := ⟨(tbg sg10 152 rfl rfl), (tbg sg1 10 rfl rfl), by decide, by decide, by decide +kernel, by decide⟩
theorem co_X11_option : Co mX11_option 5 := ⟨(tbg sg6 200 rfl rfl), (tbg sg1 1 rfl rfl), by decide, by decide, by decide +kernel, by decide⟩
theorem co_X12_option : Co mX12_option 5 := ⟨(tbg sg10 168 rfl rfl), (tbg sg1 10 rfl rfl), by decide, by decide, by decide +kernel, by decide⟩
theorem co_X11_optionOn : Co mX11_optionOn 2 := ⟨(tbg sg6 204 rfl rfl), (tbg sg1 1 rfl rfl), by decide, by decide, by decide +kernel, by decide⟩
theorem co_X12_optionOn : Co mX12_optionOn 2 := ⟨(tbg sg10 172 rfl rfl), (tbg sg1 10 rfl rfl), by decide, by decide, by decide +kernel, by decide⟩
theorem co_X11_term : Co mX11_term 3 := ⟨(tbg sg7 29 rfl rfl), (tbg sg1 1 rfl rfl), by decide, by decide, by decide +kernel, by decide⟩
theorem co_X12_term : Co mX12_term 3 := ⟨(tbg sg10 205 rfl rfl), (tbg sg1 10 rfl rfl), by decide, by decide, by decide +kernel, by decide⟩
theorem co_X11_upper : Co mX11_upper 0 := ⟨(tbg sg7 33 rfl rfl), (tbg sg1 1 rfl rfl), by decide, by decide, by decide +kernel, by decide⟩
theorem co_X12_upper : Co mX12_upper 0 := ⟨(tbg sg10 209 rfl rfl), (tbg sg1 10 rfl rfl), by decide, by decide, by decide +kernel, by decide⟩
theorem co_X11_lower : Co mX11_lower 0 := ⟨(tbg sg7 37 rfl rfl), (tbg sg1 1 rfl rfl), by decide, by decide, by decide +kernel, by decide⟩
theorem co_X12_lower : Co mX12_lower 0 := ⟨(tbg sg10 213 rfl rfl), (tbg sg1 10 rfl rfl), by decide, by decide, by decide +kernel, by decide⟩
theorem co_X11_rate : Co mX11_rate 2 := ⟨(tbg sg7 41 rfl rfl), (tbg sg1 1 rfl rfl), by decide, by decide, by decide +kernel, by decide⟩
theorem co_X12_rate : Co mX12_rate 2 := ⟨(tbg sg10 217 rfl rfl), (tbg sg1 10 rfl rfl), by decide, by decide, by decide +kernel, by decide⟩
theorem co_X11_brings : Co mX11_brings 3 := ⟨(tbg sg7 46 rfl rfl), (tbg sg1 1 rfl rfl), by decide, by decide, by decide +kernel, by decide⟩
theorem co_X12_brings_ : Co mX12_brings_ 3 := ⟨(tbg sg10 222 rfl rfl), (tbg sg1 10 rfl rfl), by decide, by decide, by decide +kernel, by decide⟩
theorem co_X11_best : Co mX11_best 2 := ⟨(tbg sg7 55 rfl rfl), (tbg sg1 1 rfl rfl), by decide, by decide, by decide +kernel, by decide⟩
theorem co_X12_best : Co mX12_best 2 := ⟨(tbg sg10 230 rfl rfl), (tbg sg1 10 rfl rfl), by decide, by decide, by decide +kernel, by decide⟩
theorem co_X11_name : Co mX11_name 4 := ⟨(tbg sg7 59 rfl rfl), (tbg sg1 1 rfl rfl), by decide, by decide, by decide +kernel, by decide⟩
theorem co_X12_name : Co mX12_name 4 := ⟨(tbg sg10 234 rfl rfl), (tbg sg1 10 rfl rfl), by decide, by decide, by decide +kernel, by decide⟩
theorem co_X11_called : Co mX11_called 2 := ⟨(tbg sg7 63 rfl rfl), (tbg sg1 1 rfl rfl), by decide, by decide, by decide +kernel, by decide⟩
theorem co_X12_called : Co mX12_called 2 := ⟨(tbg sg10 238 rfl rfl), (tbg sg1 10 rfl rfl), by decide, by decide, by decide +kernel, by decide⟩
theorem co_X11_find : Co mX11_find 3 := ⟨(tbg sg7 71 rfl rfl), (tbg sg1 1 rfl rfl), by decide, by decide, by decide +kernel, by decide⟩
theorem co_X12_find : Co mX12_find 3 := ⟨(tbg sg11 6 rfl rfl), (tbg sg1 10 rfl rfl), by decide, by decide, by decide +kernel, by decide⟩
theorem co_X11_hint : Co mX11_hint 6 := ⟨(tbg sg7 75 rfl rfl), (tbg sg1 1 rfl rfl), by decide, by decide, by decide +kernel, by decide⟩
theorem co_X12_hint : Co mX12_hint 6 := ⟨(tbg sg11 10 rfl rfl), (tbg sg1 10 rfl rfl), by decide, by decide, by decide +kernel, by decide⟩
theorem co_X11_explain : Co mX11_explain 6 := ⟨(tbg sg7 83 rfl rfl), (tbg sg1 1 rfl rfl), by decide, by decide, by decide +kernel, by decide⟩
theorem co_X12_explain : Co mX12_explain 6 := ⟨(tbg sg11 14 rfl rfl), (tbg sg1 10 rfl rfl), by decide, by decide, by decide +kernel, by decide⟩
theorem co_X11_rivals : Co mX11_rivals 0 := ⟨(tbg sg7 115 rfl rfl), (tbg sg1 1 rfl rfl), by decide, by decide, by decide +kernel, by decide⟩
theorem co_X12_rivals : Co mX12_rivals 0 := ⟨(tbg sg11 26 rfl rfl), (tbg sg1 10 rfl rfl), by decide, by decide, by decide +kernel, by decide⟩
theorem co_X11_because : Co mX11_because 1 := ⟨(tbg sg7 119 rfl rfl), (tbg sg1 1 rfl rfl), by decide, by decide, by decide +kernel, by decide⟩
theorem co_X12_because : Co mX12_because 1 := ⟨(tbg sg11 30 rfl rfl), (tbg sg1 10 rfl rfl), by decide, by decide, by decide +kernel, by decide⟩
theorem cv_L_13_128 : Cv "ShareLifeLaw" 13 mX11_status 128 0 := ⟨co_X11_status, (tbg sg2 209 rfl rfl), (tbg sg2 210 rfl rfl), 11, 20, fs_128, RX11, TX11, rfl, by decide, rfl, (tbg sg2 211 rfl rfl)⟩
theorem cv_L_17_1 : Cv "ShareLifeLaw" 17 mX12_status 1 0 := ⟨co_X12_status, (tbg sg9 66 rfl rfl), (tbg sg9 67 rfl rfl), 12, 138, fs_1, RX12, TX12, rfl, by decide, rfl, (tbg sg9 68 rfl rfl)⟩
theorem cv_L_18_128 : Cv "ShareLifeLaw" 18 mX11_asof 128 1 := ⟨co_X11_asof, (tbg sg2 213 rfl rfl), (tbg sg2 214 rfl rfl), 11, 20, fs_128, RX11, TX11, rfl, by decide, rfl, (tbg sg2 215 rfl rfl)⟩
theorem cv_L_22_1 : Cv "ShareLifeLaw" 22 mX12_asof 1 1 := ⟨co_X12_asof, (tbg sg9 70 rfl rfl), (tbg sg9 71 rfl rfl), 12, 138, fs_1, RX12, TX12, rfl, by decide, rfl, (tbg sg9 72 rfl rfl)⟩
theorem cv_L_23_128 : Cv "ShareLifeLaw" 23 mX11_account 128 3 := ⟨co_X11_account, (tbg sg2 228 rfl rfl), (tbg sg2 229 rfl rfl), 11, 20, fs_128, RX11, TX11, rfl, by decide, rfl, (tbg sg2 230 rfl rfl)⟩
theorem cv_L_27_1 : Cv "ShareLifeLaw" 27 mX12_account 1 3 := ⟨co_X12_account, (tbg sg9 84 rfl rfl), (tbg sg9 85 rfl rfl), 12, 138, fs_1, RX12, TX12, rfl, by decide, rfl, (tbg sg9 86 rfl rfl)⟩
theorem cv_L_28_128 : Cv "ShareLifeLaw" 28 mX11_issue 128 6 := ⟨co_X11_issue, (tbg sg3 3 rfl rfl), (tbg sg3 4 rfl rfl), 11, 20, fs_128, RX11, TX11, rfl, by decide, rfl, (tbg sg3 5 rfl rfl)⟩
theorem cv_L_32_1 : Cv "ShareLifeLaw" 32 mX12_issue 1 6 := ⟨co_X12_issue, (tbg sg9 96 rfl rfl), (tbg sg9 97 rfl rfl), 12, 138, fs_1, RX12, TX12, rfl, by decide, rfl, (tbg sg9 98 rfl rfl)⟩
theorem cv_L_33_128 : Cv "ShareLifeLaw" 33 mX11_trade 128 7 := ⟨co_X11_trade, (tbg sg3 133 rfl rfl), (tbg sg3 134 rfl rfl), 11, 20, fs_128, RX11, TX11, rfl, by decide, rfl, (tbg sg3 135 rfl rfl)⟩
theorem cv_L_37_1 : Cv "ShareLifeLaw" 37 mX12_trade 1 7 := ⟨co_X12_trade, (tbg sg9 105 rfl rfl), (tbg sg9 106 rfl rfl), 12, 138, fs_1, RX12, TX12, rfl, by decide, rfl, (tbg sg9 107 rfl rfl)⟩
theorem cv_L_38_128 : Cv "ShareLifeLaw" 38 mX11_feed 128 5 := ⟨co_X11_feed, (tbg sg3 137 rfl rfl), (tbg sg3 138 rfl rfl), 11, 20, fs_128, RX11, TX11, rfl, by decide, rfl, (tbg sg3 139 rfl rfl)⟩
theorem cv_L_42_1 : Cv "ShareLifeLaw" 42 mX12_feed 1 5 := ⟨co_X12_feed, (tbg sg9 110 rfl rfl), (tbg sg9 111 rfl rfl), 12, 138, fs_1, RX12, TX12, rfl, by decide, rfl, (tbg sg9 112 rfl rfl)⟩
theorem cv_L_43_128 : Cv "ShareLifeLaw" 43 mX11_event 128 6 := ⟨co_X11_event, (tbg sg3 145 rfl rfl), (tbg sg3 146 rfl rfl), 11, 20, fs_128, RX11, TX11, rfl, by decide, rfl, (tbg sg3 147 rfl rfl)⟩
theorem cv_L_47_1 : Cv "ShareLifeLaw" 47 mX12_event 1 6 := ⟨co_X12_event, (tbg sg9 118 rfl rfl), (tbg sg9 119 rfl rfl), 12, 138, fs_1, RX12, TX12, rfl, by decide, rfl, (tbg sg9 120 rfl rfl)⟩
theorem cv_L_48_128 : Cv "ShareLifeLaw" 48 mX11_fault 128 1 := ⟨co_X11_fault, (tbg sg4 233 rfl rfl), (tbg sg4 234 rfl rfl), 11, 20, fs_128, RX11, TX11, rfl, by decide, rfl, (tbg sg4 235 rfl rfl)⟩
theorem cv_L_52_1 : Cv "ShareLifeLaw" 52 mX12_fault 1 1 := ⟨co_X12_fault, (tbg sg9 216 rfl rfl), (tbg sg9 217 rfl rfl), 12, 138, fs_1, RX12, TX12, rfl, by decide, rfl, (tbg sg9 218 rfl rfl)⟩
theorem cv_L_53_128 : Cv "ShareLifeLaw" 53 mX11_choices 128 1 := ⟨co_X11_choices, (tbg sg4 237 rfl rfl), (tbg sg4 238 rfl rfl), 11, 20, fs_128, RX11, TX11, rfl, by decide, rfl, (tbg sg4 239 rfl rfl)⟩
theorem cv_L_56_1 : Cv "ShareLifeLaw" 56 mX12_choices 1 1 := ⟨co_X12_choices, (tbg sg9 220 rfl rfl), (tbg sg9 221 rfl rfl), 12, 138, fs_1, RX12, TX12, rfl, by decide, rfl, (tbg sg9 222 rfl rfl)⟩
theorem cv_L_57_128 : Cv "ShareLifeLaw" 57 mX11_choose 128 5 := ⟨co_X11_choose, (tbg sg5 17 rfl rfl), (tbg sg5 18 rfl rfl), 11, 20, fs_128, RX11, TX11, rfl, by decide, rfl, (tbg sg5 19 rfl rfl)⟩
theorem cv_L_60_1 : Cv "ShareLifeLaw" 60 mX12_choose 1 5 := ⟨co_X12_choose, (tbg sg9 228 rfl rfl), (tbg sg9 229 rfl rfl), 12, 138, fs_1, RX12, TX12, rfl, by decide, rfl, (tbg sg9 230 rfl rfl)⟩
theorem cv_L_61_128 : Cv "ShareLifeLaw" 61 mX11_strike 128 3 := ⟨co_X11_strike, (tbg sg5 51 rfl rfl), (tbg sg5 52 rfl rfl), 11, 20, fs_128, RX11, TX11, rfl, by decide, rfl, (tbg sg5 53 rfl rfl)⟩
theorem cv_L_65_1 : Cv "ShareLifeLaw" 65 mX12_strike 1 3 := ⟨co_X12_strike, (tbg sg9 232 rfl rfl), (tbg sg9 233 rfl rfl), 12, 138, fs_1, RX12, TX12, rfl, by decide, rfl, (tbg sg9 234 rfl rfl)⟩
theorem cv_L_66_128 : Cv "ShareLifeLaw" 66 mX11_own 128 3 := ⟨co_X11_own, (tbg sg5 68 rfl rfl), (tbg sg5 69 rfl rfl), 11, 20, fs_128, RX11, TX11, rfl, by decide, rfl, (tbg sg5 70 rfl rfl)⟩
theorem cv_L_69_1 : Cv "ShareLifeLaw" 69 mX12_own 1 3 := ⟨co_X12_own, (tbg sg10 32 rfl rfl), (tbg sg10 33 rfl rfl), 12, 138, fs_1, RX12, TX12, rfl, by decide, rfl, (tbg sg10 34 rfl rfl)⟩
theorem cv_L_70_128 : Cv "ShareLifeLaw" 70 mX11_total 128 3 := ⟨co_X11_total, (tbg sg5 222 rfl rfl), (tbg sg5 223 rfl rfl), 11, 20, fs_128, RX11, TX11, rfl, by decide, rfl, (tbg sg5 224 rfl rfl)⟩
theorem cv_L_73_1 : Cv "ShareLifeLaw" 73 mX12_total 1 3 := ⟨co_X12_total, (tbg sg10 125 rfl rfl), (tbg sg10 126 rfl rfl), 12, 138, fs_1, RX12, TX12, rfl, by decide, rfl, (tbg sg10 127 rfl rfl)⟩
theorem cv_L_74_128 : Cv "ShareLifeLaw" 74 mX11_worth 128 3 := ⟨co_X11_worth, (tbg sg5 227 rfl rfl), (tbg sg5 228 rfl rfl), 11, 20, fs_128, RX11, TX11, rfl, by decide, rfl, (tbg sg5 229 rfl rfl)⟩
theorem cv_L_78_1 : Cv "ShareLifeLaw" 78 mX12_worth 1 3 := ⟨co_X12_worth, (tbg sg10 129 rfl rfl), (tbg sg10 130 rfl rfl), 12, 138, fs_1, RX12, TX12, rfl, by decide, rfl, (tbg sg10 131 rfl rfl)⟩
theorem cv_L_79_128 : Cv "ShareLifeLaw" 79 mX11_coin 128 3 := ⟨co_X11_coin, (tbg sg5 232 rfl rfl), (tbg sg5 233 rfl rfl), 11, 20, fs_128, RX11, TX11, rfl, by decide, rfl, (tbg sg5 234 rfl rfl)⟩
theorem cv_L_82_1 : Cv "ShareLifeLaw" 82 mX12_coin 1 3 := ⟨co_X12_coin, (tbg sg10 133 rfl rfl), (tbg sg10 134 rfl rfl), 12, 138, fs_1, RX12, TX12, rfl, by decide, rfl, (tbg sg10 135 rfl rfl)⟩
theorem cv_L_83_128 : Cv "ShareLifeLaw" 83 mX11_chosen 128 2 := ⟨co_X11_chosen, (tbg sg5 236 rfl rfl), (tbg sg5 237 rfl rfl), 11, 20, fs_128, RX11, TX11, rfl, by decide, rfl, (tbg sg5 238 rfl rfl)⟩
theorem cv_L_87_1 : Cv "ShareLifeLaw" 87 mX12_chosen 1 2 := ⟨co_X12_chosen, (tbg sg9 236 rfl rfl), (tbg sg9 237 rfl rfl), 12, 138, fs_1, RX12, TX12, rfl, by decide, rfl, (tbg sg9 238 rfl rfl)⟩
theorem cv_L_88_128 : Cv "ShareLifeLaw" 88 mX11_stays 128 3 := ⟨co_X11_stays, (tbg sg6 7 rfl rfl), (tbg sg6 8 rfl rfl), 11, 20, fs_128, RX11, TX11, rfl, by decide, rfl, (tbg sg6 9 rfl rfl)⟩
theorem cv_L_91_1 : Cv "ShareLifeLaw" 91 mX12_stays_ 1 3 := ⟨co_X12_stays_, (tbg sg10 137 rfl rfl), (tbg sg10 138 rfl rfl), 12, 138, fs_1, RX12, TX12, rfl, by decide, rfl, (tbg sg10 139 rfl rfl)⟩
theorem cv_L_92_128 : Cv "ShareLifeLaw" 92 mX11_bears 128 1 := ⟨co_X11_bears, (tbg sg6 11 rfl rfl), (tbg sg6 12 rfl rfl), 11, 20, fs_128, RX11, TX11, rfl, by decide, rfl, (tbg sg6 13 rfl rfl)⟩
theorem cv_L_95_1 : Cv "ShareLifeLaw" 95 mX12_bears 1 1 := ⟨co_X12_bears, (tbg sg10 24 rfl rfl), (tbg sg10 25 rfl rfl), 12, 138, fs_1, RX12, TX12, rfl, by decide, rfl, (tbg sg10 26 rfl rfl)⟩
theorem cv_L_96_128 : Cv "ShareLifeLaw" 96 mX11_done 128 1 := ⟨co_X11_done, (tbg sg6 25 rfl rfl), (tbg sg6 26 rfl rfl), 11, 20, fs_128, RX11, TX11, rfl, by decide, rfl, (tbg sg6 27 rfl rfl)⟩
theorem cv_L_99_1 : Cv "ShareLifeLaw" 99 mX12_done 1 1 := ⟨co_X12_done, (tbg sg10 141 rfl rfl), (tbg sg10 142 rfl rfl), 12, 138, fs_1, RX12, TX12, rfl, by decide, rfl, (tbg sg10 143 rfl rfl)⟩
theorem cv_L_100_128 : Cv "ShareLifeLaw" 100 mX11_due 128 3 := ⟨co_X11_due, (tbg sg6 32 rfl rfl), (tbg sg6 33 rfl rfl), 11, 20, fs_128, RX11, TX11, rfl, by decide, rfl, (tbg sg6 34 rfl rfl)⟩
theorem cv_L_103_1 : Cv "ShareLifeLaw" 103 mX12_due 1 3 := ⟨co_X12_due, (tbg sg10 149 rfl rfl), (tbg sg10 150 rfl rfl), 12, 138, fs_1, RX12, TX12, rfl, by decide, rfl, (tbg sg10 151 rfl rfl)⟩
theorem cv_L_104_128 : Cv "ShareLifeLaw" 104 mX11_option 128 5 := ⟨co_X11_option, (tbg sg6 197 rfl rfl), (tbg sg6 198 rfl rfl), 11, 20, fs_128, RX11, TX11, rfl, by decide, rfl, (tbg sg6 199 rfl rfl)⟩
theorem cv_L_107_1 : Cv "ShareLifeLaw" 107 mX12_option 1 5 := ⟨co_X12_option, (tbg sg10 165 rfl rfl), (tbg sg10 166 rfl rfl), 12, 138, fs_1, RX12, TX12, rfl, by decide, rfl, (tbg sg10 167 rfl rfl)⟩
theorem cv_L_108_128 : Cv "ShareLifeLaw" 108 mX11_optionOn 128 2 := ⟨co_X11_optionOn, (tbg sg6 201 rfl rfl), (tbg sg6 202 rfl rfl), 11, 20, fs_128, RX11, TX11, rfl, by decide, rfl, (tbg sg6 203 rfl rfl)⟩
theorem cv_L_111_1 : Cv "ShareLifeLaw" 111 mX12_optionOn 1 2 := ⟨co_X12_optionOn, (tbg sg10 169 rfl rfl), (tbg sg10 170 rfl rfl), 12, 138, fs_1, RX12, TX12, rfl, by decide, rfl, (tbg sg10 171 rfl rfl)⟩
theorem cv_L_112_128 : Cv "ShareLifeLaw" 112 mX11_term 128 3 := ⟨co_X11_term, (tbg sg7 26 rfl rfl), (tbg sg7 27 rfl rfl), 11, 20, fs_128, RX11, TX11, rfl, by decide, rfl, (tbg sg7 28 rfl rfl)⟩
theorem cv_L_115_1 : Cv "ShareLifeLaw" 115 mX12_term 1 3 := ⟨co_X12_term, (tbg sg10 202 rfl rfl), (tbg sg10 203 rfl rfl), 12, 138, fs_1, RX12, TX12, rfl, by decide, rfl, (tbg sg10 204 rfl rfl)⟩
theorem cv_L_116_128 : Cv "ShareLifeLaw" 116 mX11_upper 128 0 := ⟨co_X11_upper, (tbg sg7 30 rfl rfl), (tbg sg7 31 rfl rfl), 11, 20, fs_128, RX11, TX11, rfl, by decide, rfl, (tbg sg7 32 rfl rfl)⟩
theorem cv_L_120_1 : Cv "ShareLifeLaw" 120 mX12_upper 1 0 := ⟨co_X12_upper, (tbg sg10 206 rfl rfl), (tbg sg10 207 rfl rfl), 12, 138, fs_1, RX12, TX12, rfl, by decide, rfl, (tbg sg10 208 rfl rfl)⟩
theorem cv_L_121_128 : Cv "ShareLifeLaw" 121 mX11_lower 128 0 := ⟨co_X11_lower, (tbg sg7 34 rfl rfl), (tbg sg7 35 rfl rfl), 11, 20, fs_128, RX11, TX11, rfl, by decide, rfl, (tbg sg7 36 rfl rfl)⟩
theorem cv_L_124_1 : Cv "ShareLifeLaw" 124 mX12_lower 1 0 := ⟨co_X12_lower, (tbg sg10 210 rfl rfl), (tbg sg10 211 rfl rfl), 12, 138, fs_1, RX12, TX12, rfl, by decide, rfl, (tbg sg10 212 rfl rfl)⟩
theorem cv_L_125_128 : Cv "ShareLifeLaw" 125 mX11_rate 128 2 := ⟨co_X11_rate, (tbg sg7 38 rfl rfl), (tbg sg7 39 rfl rfl), 11, 20, fs_128, RX11, TX11, rfl, by decide, rfl, (tbg sg7 40 rfl rfl)⟩
theorem cv_L_129_1 : Cv "ShareLifeLaw" 129 mX12_rate 1 2 := ⟨co_X12_rate, (tbg sg10 214 rfl rfl), (tbg sg10 215 rfl rfl), 12, 138, fs_1, RX12, TX12, rfl, by decide, rfl, (tbg sg10 216 rfl rfl)⟩
theorem cv_L_130_128 : Cv "ShareLifeLaw" 130 mX11_brings 128 3 := ⟨co_X11_brings, (tbg sg7 43 rfl rfl), (tbg sg7 44 rfl rfl), 11, 20, fs_128, RX11, TX11, rfl, by decide, rfl, (tbg sg7 45 rfl rfl)⟩
theorem cv_L_133_1 : Cv "ShareLifeLaw" 133 mX12_brings_ 1 3 := ⟨co_X12_brings_, (tbg sg10 219 rfl rfl), (tbg sg10 220 rfl rfl), 12, 138, fs_1, RX12, TX12, rfl, by decide, rfl, (tbg sg10 221 rfl rfl)⟩
theorem cv_L_134_128 : Cv "ShareLifeLaw" 134 mX11_best 128 2 := ⟨co_X11_best, (tbg sg7 52 rfl rfl), (tbg sg7 53 rfl rfl), 11, 20, fs_128, RX11, TX11, rfl, by decide, rfl, (tbg sg7 54 rfl rfl)⟩
theorem cv_L_137_1 : Cv "ShareLifeLaw" 137 mX12_best 1 2 := ⟨co_X12_best, (tbg sg10 227 rfl rfl), (tbg sg10 228 rfl rfl), 12, 138, fs_1, RX12, TX12, rfl, by decide, rfl, (tbg sg10 229 rfl rfl)⟩
theorem cv_L_138_128 : Cv "ShareLifeLaw" 138 mX11_name 128 4 := ⟨co_X11_name, (tbg sg7 56 rfl rfl), (tbg sg7 57 rfl rfl), 11, 20, fs_128, RX11, TX11, rfl, by decide, rfl, (tbg sg7 58 rfl rfl)⟩
theorem cv_L_142_1 : Cv "ShareLifeLaw" 142 mX12_name 1 4 := ⟨co_X12_name, (tbg sg10 231 rfl rfl), (tbg sg10 232 rfl rfl), 12, 138, fs_1, RX12, TX12, rfl, by decide, rfl, (tbg sg10 233 rfl rfl)⟩
theorem cv_L_143_128 : Cv "ShareLifeLaw" 143 mX11_called 128 2 := ⟨co_X11_called, (tbg sg7 60 rfl rfl), (tbg sg7 61 rfl rfl), 11, 20, fs_128, RX11, TX11, rfl, by decide, rfl, (tbg sg7 62 rfl rfl)⟩
theorem cv_L_146_1 : Cv "ShareLifeLaw" 146 mX12_called 1 2 := ⟨co_X12_called, (tbg sg10 235 rfl rfl), (tbg sg10 236 rfl rfl), 12, 138, fs_1, RX12, TX12, rfl, by decide, rfl, (tbg sg10 237 rfl rfl)⟩
theorem cv_L_147_128 : Cv "ShareLifeLaw" 147 mX11_find 128 3 := ⟨co_X11_find, (tbg sg7 68 rfl rfl), (tbg sg7 69 rfl rfl), 11, 20, fs_128, RX11, TX11, rfl, by decide, rfl, (tbg sg7 70 rfl rfl)⟩
theorem cv_L_150_1 : Cv "ShareLifeLaw" 150 mX12_find 1 3 := ⟨co_X12_find, (tbg sg11 3 rfl rfl), (tbg sg11 4 rfl rfl), 12, 138, fs_1, RX12, TX12, rfl, by decide, rfl, (tbg sg11 5 rfl rfl)⟩
theorem cv_L_151_128 : Cv "ShareLifeLaw" 151 mX11_hint 128 6 := ⟨co_X11_hint, (tbg sg7 72 rfl rfl), (tbg sg7 73 rfl rfl), 11, 20, fs_128, RX11, TX11, rfl, by decide, rfl, (tbg sg7 74 rfl rfl)⟩
theorem cv_L_155_1 : Cv "ShareLifeLaw" 155 mX12_hint 1 6 := ⟨co_X12_hint, (tbg sg11 7 rfl rfl), (tbg sg11 8 rfl rfl), 12, 138, fs_1, RX12, TX12, rfl, by decide, rfl, (tbg sg11 9 rfl rfl)⟩
theorem cv_L_156_128 : Cv "ShareLifeLaw" 156 mX11_explain 128 6 := ⟨co_X11_explain, (tbg sg7 80 rfl rfl), (tbg sg7 81 rfl rfl), 11, 20, fs_128, RX11, TX11, rfl, by decide, rfl, (tbg sg7 82 rfl rfl)⟩
theorem cv_L_159_1 : Cv "ShareLifeLaw" 159 mX12_explain 1 6 := ⟨co_X12_explain, (tbg sg11 11 rfl rfl), (tbg sg11 12 rfl rfl), 12, 138, fs_1, RX12, TX12, rfl, by decide, rfl, (tbg sg11 13 rfl rfl)⟩
theorem cv_L_160_128 : Cv "ShareLifeLaw" 160 mX11_rivals 128 0 := ⟨co_X11_rivals, (tbg sg7 112 rfl rfl), (tbg sg7 113 rfl rfl), 11, 20, fs_128, RX11, TX11, rfl, by decide, rfl, (tbg sg7 114 rfl rfl)⟩
theorem cv_L_163_1 : Cv "ShareLifeLaw" 163 mX12_rivals 1 0 := ⟨co_X12_rivals, (tbg sg11 23 rfl rfl), (tbg sg11 24 rfl rfl), 12, 138, fs_1, RX12, TX12, rfl, by decide, rfl, (tbg sg11 25 rfl rfl)⟩
theorem cv_L_164_128 : Cv "ShareLifeLaw" 164 mX11_because 128 1 := ⟨co_X11_because, (tbg sg7 116 rfl rfl), (tbg sg7 117 rfl rfl), 11, 20, fs_128, RX11, TX11, rfl, by decide, rfl, (tbg sg7 118 rfl rfl)⟩
theorem cv_L_167_1 : Cv "ShareLifeLaw" 167 mX12_because 1 1 := ⟨co_X12_because, (tbg sg11 27 rfl rfl), (tbg sg11 28 rfl rfl), 12, 138, fs_1, RX12, TX12, rfl, by decide, rfl, (tbg sg11 29 rfl rfl)⟩
