theorem hv_out {mf ml : List Int} {G G1 : Gh} {L a j : Int} (c : ml.all (fun K => decide (K ≤ 92)) = true) (h : 92 < L) : hv mf ml G G1 L a j = G L a j := by
  unfold hv
  rw [if_neg]
  intro q
  simp only [Bool.or_eq_true, Bool.and_eq_true, beq_iff_eq] at q
  rcases q with q | q
  · omega
  · have := of_decide_eq_true (List.all_eq_true.mp c L (by simpa using q))
    omega
theorem hw_lo {ws : List (Int × Int)} {G G1 : Gh} {L a j : Int} (c : ws.all (fun q => decide (92 < q.1)) = true) (h : L ≤ 92) : hw ws G G1 L a j = G L a j := by
  refine hw_out ?_
  cases e : inm ws L j with
  | false => rfl
  | true =>
    exfalso
    obtain ⟨p, hp, e1, -⟩ := inm_iff.mp e
    have := of_decide_eq_true (List.all_eq_true.mp c p hp)
    omega
theorem ci_hvL {E : En} {S : Sg} {mf ml : List Int} {G G1 : Gh} (h : CI E S G) (c : ml.all (fun K => decide (K ≤ 92)) = true) : CI E S (hv mf ml G G1) := ci_keep h (fun _ _ => hv_out c (by decide)) (fun _ _ => hv_out c (by decide)) (fun _ => hv_out c (by decide)) (fun _ => hv_out c (by decide)) (fun _ => hv_out c (by decide)) (fun _ => hv_out c (by decide)) (fun _ => hv_out c (by decide)) (fun _ => hv_out c (by decide)) (fun _ => hv_out c (by decide)) (fun _ => hv_out c (by decide)) (fun _ => hv_out c (by decide)) (fun _ => hv_out c (by decide)) (fun _ => hv_out c (by decide)) (fun _ => hv_out c (by decide)) (fun _ => hv_out c (by decide)) (fun _ => hv_out c (by decide)) (fun _ => hv_out c (by decide)) (fun _ _ => hv_out c (by decide)) (fun _ _ => hv_out c (by decide)) (fun _ _ => hv_out c (by decide)) (fun _ _ => hv_out c (by decide)) (fun _ _ => hv_out c (by decide)) (fun _ _ => hv_out c (by decide)) (fun _ _ => hv_out c (by decide)) (fun _ _ => hv_out c (by decide)) (fun _ _ => hv_out c (by decide)) (fun _ _ => hv_out c (by decide)) (fun _ _ => hv_out c (by decide)) (fun _ _ => hv_out c (by decide)) (fun _ _ => hv_out c (by decide)) (fun _ _ => hv_out c (by decide)) (fun _ _ => hv_out c (by decide)) (fun _ _ => hv_out c (by decide)) (fun _ _ => hv_out c (by decide)) (fun _ _ => hv_out c (by decide)) (fun _ _ => hv_out c (by decide)) (fun _ _ => hv_out c (by decide)) (fun _ _ => hv_out c (by decide)) (fun _ _ => hv_out c (by decide)) (fun _ _ => hv_out c (by decide)) (fun _ _ => hv_out c (by decide)) (fun _ _ => hv_out c (by decide)) (fun _ _ => hv_out c (by decide))
theorem mi_hwL {E : En} {ws : List (Int × Int)} {G G1 : Gh} (h : MI E G) (c : ws.all (fun q => decide (92 < q.1)) = true) : MI E (hw ws G G1) := mi_keep h (hw_lo c (by decide)) (hw_lo c (by decide)) (hw_lo c (by decide)) (hw_lo c (by decide)) (hw_lo c (by decide)) (hw_lo c (by decide)) (fun _ => hw_lo c (by decide)) (fun _ => hw_lo c (by decide)) (fun _ => hw_lo c (by decide)) (fun _ => hw_lo c (by decide)) (fun _ => hw_lo c (by decide)) (fun _ => hw_lo c (by decide)) (fun _ => hw_lo c (by decide)) (fun _ => hw_lo c (by decide)) (fun _ => hw_lo c (by decide)) (fun _ => hw_lo c (by decide)) (fun _ => hw_lo c (by decide)) (fun _ => hw_lo c (by decide)) (fun _ => hw_lo c (by decide))
theorem relm_hwL {E : En} {ws : List (Int × Int)} {G G1 : Gh} {t : Tz} (h : RelM E G t) (c : ws.all (fun q => decide (92 < q.1)) = true) : RelM E (hw ws G G1) t := relm_keep h (hw_lo c (by decide)) (hw_lo c (by decide)) (hw_lo c (by decide)) (hw_lo c (by decide)) (hw_lo c (by decide)) (hw_lo c (by decide)) (hw_lo c (by decide)) (hw_lo c (by decide)) (hw_lo c (by decide)) (hw_lo c (by decide)) (hw_lo c (by decide)) (hw_lo c (by decide)) (fun _ => hw_lo c (by decide)) (fun _ => hw_lo c (by decide)) (fun _ => hw_lo c (by decide)) (fun _ => hw_lo c (by decide)) (fun _ => hw_lo c (by decide)) (fun _ => hw_lo c (by decide)) (fun _ => hw_lo c (by decide)) (fun _ => hw_lo c (by decide)) (fun _ => hw_lo c (by decide))
theorem relm_gr {E : En} {S S' : Sg} {G G' : Gh} {nl : List Int} {ws : List (Int × Int)} {t : Tz} (h : RelM E G t) (hm : S (Ad E 1) = 1) (adl : ∀ q ∈ mTB, S (Ad E q.2) = q.2) (g : Gr nl ws S G S' G') (c : ws.all (fun q => decide (92 < q.1)) = true) : RelM E G' t := by
  have at_ : ∀ (L j : Int), L ≤ 92 → L ≠ 0 → S (Ad E L) = L → G' L (Ad E L) j = G L (Ad E L) j := by
    intro L j hL h0 hs
    refine gr_at g hs h0 ?_
    cases e : inm ws L j with
    | false => rfl
    | true =>
      exfalso
      obtain ⟨p, hp, e1, -⟩ := inm_iff.mp e
      have := of_decide_eq_true (List.all_eq_true.mp c p hp)
      omega
  exact relm_keep h (at_ 1 6 (by decide) (by decide) hm) (at_ 1 7 (by decide) (by decide) hm) (at_ 1 8 (by decide) (by decide) hm) (at_ 1 9 (by decide) (by decide) hm) (at_ 1 10 (by decide) (by decide) hm) (at_ 1 11 (by decide) (by decide) hm) (at_ 1 12 (by decide) (by decide) hm) (at_ 1 3 (by decide) (by decide) hm) (at_ 1 76 (by decide) (by decide) hm) (at_ 1 2 (by decide) (by decide) hm) (at_ 1 78 (by decide) (by decide) hm) (at_ 1 79 (by decide) (by decide) hm) (fun i => at_ 18 i (by decide) (by decide) (adl (30, 18) (by decide))) (fun i => at_ 25 i (by decide) (by decide) (adl (37, 25) (by decide))) (fun i => at_ 27 i (by decide) (by decide) (adl (39, 27) (by decide))) (fun i => at_ 43 i (by decide) (by decide) (adl (55, 43) (by decide))) (fun i => at_ 50 i (by decide) (by decide) (adl (62, 50) (by decide))) (fun i => at_ 52 i (by decide) (by decide) (adl (64, 52) (by decide))) (fun i => at_ 51 i (by decide) (by decide) (adl (63, 51) (by decide))) (fun i => at_ 53 i (by decide) (by decide) (adl (65, 53) (by decide))) (fun i => at_ 61 i (by decide) (by decide) (adl (75, 61) (by decide)))
theorem relc_tape {S : Sg} {G : Gh} {x : Int} {t : Tz} (h : RelC S G x t) : ∀ i : Int, 0 ≤ i → i < t 8 0 → t 40 i = (fun i => G 105 (G 131 (G 128 x 16) 3) i) i := fun i i0 i1 => (h.2.2.2.2.2.2.1 i i0 (by have := h.2.1.2.2.2.2.2.2.2.2.1; omega)).symm
def tz0 : Tz := fun c _ => if c = 9 then 40000 else if c = 10 then -1 else if c = 11 then -1 else 0
theorem relc_0 {S : Sg} {G : Gh} {x : Int} (h6 : Q6 S G x) (c0 : G 130 (G 128 x 5) 0 = 0) (c1 : G 154 (G 128 x 6) 2 = 0) (c2 : G 155 (G 128 x 7) 2 = 0) (c3 : G 156 (G 128 x 8) 2 = 0) (c4 : G 157 (G 128 x 9) 2 = 0) (c5 : G 158 (G 128 x 10) 2 = 0) (c6 : G 159 (G 128 x 11) 2 = 0) (c7 : G 128 x 1 = 0) (c8 : G 131 (G 128 x 16) 0 = 0) (c9 : G 129 (G 128 x 17) 0 = 40000) (c10 : G 131 (G 128 x 16) 1 = -1) (c11 : G 131 (G 128 x 16) 2 = -1) (ne : G 131 (G 128 x 16) 15 ≠ G 131 (G 128 x 16) 16) (tx : G 131 (G 128 x 16) 9 = -1) : RelC S G x tz0 := ⟨h6, ⟨c0, c1, c2, c3, c4, c5, c6, c7, c8, c9, c10, c11⟩, fun i i0 i1 => absurd i1 (by first | decide | omega), fun i i0 i1 => absurd i1 (by first | decide | omega), fun i i0 i1 => absurd i1 (by first | decide | omega), fun i i0 i1 => absurd i1 (by first | decide | omega), fun i i0 i1 => absurd i1 (by first | decide | omega), ⟨ne, fun p => absurd p (by first | decide | omega)⟩, fun i j i0 ij j1 => absurd j1 (by first | decide | omega), fun i j i0 ij j1 => absurd j1 (by first | decide | omega), fun i j i0 ij j1 => absurd j1 (by first | decide | omega)⟩
theorem relm_0 {E : En} {G : Gh} (a0 : G 1 (Ad E 1) 6 = 0) (a1 : G 1 (Ad E 1) 7 = 0) (a2 : G 1 (Ad E 1) 8 = 0) (a3 : G 1 (Ad E 1) 9 = 0) (a4 : G 1 (Ad E 1) 10 = 0) (a5 : G 1 (Ad E 1) 11 = 0) (a6 : G 1 (Ad E 1) 12 = 0) (a7 : G 1 (Ad E 1) 3 = 0) (a8 : G 1 (Ad E 1) 76 = 0) (a9 : G 1 (Ad E 1) 2 = 40000) (a10 : G 1 (Ad E 1) 78 = -1) (a11 : G 1 (Ad E 1) 79 = -1) : RelM E G tz0 := ⟨⟨a0, a1, a2, a3, a4, a5, a6, a7, a8, a9, a10, a11⟩, fun i i0 i1 => absurd i1 (by first | decide | omega), fun i i0 i1 => absurd i1 (by first | decide | omega), fun i i0 i1 => absurd i1 (by first | decide | omega), fun i i0 i1 => absurd i1 (by first | decide | omega), fun i i0 i1 => absurd i1 (by first | decide | omega)⟩
def PL0 : Cod := [(188, .aload_n 1, 1), (189, .invokevirtual 13, 3), (192, .pop, 1), (193, .aload_n 2, 1), (194, .invokevirtual 17, 3), (197, .pop, 1), (198, .goto 1463, 3)]
theorem hPL0 : Dec code PL0 := dec_of (by decide +kernel)
set_option maxRecDepth 100000 in
set_option maxHeartbeats 4000000 in
theorem law_0 {E : En} {nm : String} {as : List Vl} {mc ms : Nat} {Y : Option Vl → Sg → Gh → Prop} {X : Xp} {b L : Nat} {sv : Int → Int} (hX : Cl E (mL nm) as 840 mc ms Y X) (hs : Scr X b L sv) {cs ss : Nat} {S : Sg} {G : Gh} {x i : Int} (i0 : 0 ≤ i) (i1 : i + 8 ≤ L) (i2 : i ≤ 4096) (hx : S x = 128) (hm : S (Ad E 1) = 1) (ci : CI E S G) (mi : MI E G) (rel : ∃ t : Tz, RelC S G x t ∧ RelM E G t) (hc : cs + 704 ≤ mc) (hq : ss + 6964 ≤ ms) (kk : ∀ (cs' ss' : Nat) (S' : Sg) (G' : Gh), cs' ≤ cs + 704 → ss' ≤ ss + 6964 → S' x = 128 → S' (Ad E 1) = 1 → CI E S' G' → MI E G' → (∃ t : Tz, RelC S' G' x t ∧ RelM E G' t) → X cs' ss' 1661 [] [(0, (2, (b : Int))), (1, (2, x)), (2, (2, Ad E 1)), (3, (0, i))] S' G') : X cs ss 188 [] [(0, (2, (b : Int))), (1, (2, x)), (2, (2, Ad E 1)), (3, (0, i))] S G := by
  have hP := hPL0
  obtain ⟨t, rc, rm⟩ := rel
  refine r_ex hX hP 1 (pc' := 189) (st' := [(2, x)]) (lo' := [(0, (2, (b : Int))), (1, (2, x)), (2, (2, Ad E 1)), (3, (0, i))]) rfl ?_
  refine r_callV gd hX hP rfl cv_L_13_128 hx (d' := 0) (mc' := 0) (ms' := 0) (as' := []) (st := []) (by first | decide | omega) (by first | decide | omega) (by first | decide | omega) rfl rfl (Nat.le_of_ble_eq_true rfl) (c_X11_status E S G x  hx) ?_
  rintro _ _ _ ⟨rfl, rfl, z1, rfl, z1a, z1b⟩
  refine r_ex hX hP 2 (pc' := 194) (st' := [(2, Ad E 1)]) (lo' := [(0, (2, (b : Int))), (1, (2, x)), (2, (2, Ad E 1)), (3, (0, i))]) rfl ?_
  refine r_callV gd hX hP rfl cv_L_17_1 hm (d' := 0) (mc' := 0) (ms' := 0) (as' := []) (st := []) (by first | decide | omega) (by first | decide | omega) (by first | decide | omega) rfl rfl (Nat.le_of_ble_eq_true rfl) (c_X12_status E S G  hm) ?_
  rintro _ _ _ ⟨rfl, ⟨G4, rfl⟩, z3, rfl, z3a, z3b⟩
  refine r_ex hX hP 2 (pc' := 1661) (st' := []) (lo' := [(0, (2, (b : Int))), (1, (2, x)), (2, (2, Ad E 1)), (3, (0, i))]) rfl ?_
  exact kk _ _ _ _ (by first | decide | omega) (by first | decide | omega) hx hm (ci_hvL ci rfl) (mi_keep mi rfl rfl rfl rfl rfl rfl (fun _ => rfl) (fun _ => rfl) (fun _ => rfl) (fun _ => rfl) (fun _ => rfl) (fun _ => rfl) (fun _ => rfl) (fun _ => rfl) (fun _ => rfl) (fun _ => rfl) (fun _ => rfl) (fun _ => rfl) (fun _ => rfl)) ⟨_, (relc_frm ci rc (frm_hv rfl rfl)), (relm_keep rm rfl rfl rfl rfl rfl rfl rfl rfl rfl rfl rfl rfl (fun _ => rfl) (fun _ => rfl) (fun _ => rfl) (fun _ => rfl) (fun _ => rfl) (fun _ => rfl) (fun _ => rfl) (fun _ => rfl) (fun _ => rfl))⟩
def PL1 : Cod := [(201, .aload_n 1, 1), (202, .aload_n 0, 1), (203, .iload_n 3, 1), (204, .iconst 1, 1), (205, .iadd, 1), (206, .iaload, 1), (207, .invokevirtual 18, 3), (210, .pop, 1), (211, .aload_n 2, 1), (212, .aload_n 0, 1), (213, .iload_n 3, 1), (214, .iconst 1, 1), (215, .iadd, 1), (216, .iaload, 1), (217, .invokevirtual 22, 3), (220, .pop, 1), (221, .goto 1440, 3)]
theorem hPL1 : Dec code PL1 := dec_of (by decide +kernel)
set_option maxRecDepth 100000 in
set_option maxHeartbeats 4000000 in
theorem law_1 {E : En} {nm : String} {as : List Vl} {mc ms : Nat} {Y : Option Vl → Sg → Gh → Prop} {X : Xp} {b L : Nat} {sv : Int → Int} (hX : Cl E (mL nm) as 840 mc ms Y X) (hs : Scr X b L sv) {cs ss : Nat} {S : Sg} {G : Gh} {x i : Int} (i0 : 0 ≤ i) (i1 : i + 8 ≤ L) (i2 : i ≤ 4096) (hx : S x = 128) (hm : S (Ad E 1) = 1) (ci : CI E S G) (mi : MI E G) (rel : ∃ t : Tz, RelC S G x t ∧ RelM E G t) (hc : cs + 704 ≤ mc) (hq : ss + 6964 ≤ ms) (kk : ∀ (cs' ss' : Nat) (S' : Sg) (G' : Gh), cs' ≤ cs + 704 → ss' ≤ ss + 6964 → S' x = 128 → S' (Ad E 1) = 1 → CI E S' G' → MI E G' → (∃ t : Tz, RelC S' G' x t ∧ RelM E G' t) → X cs' ss' 1661 [] [(0, (2, (b : Int))), (1, (2, x)), (2, (2, Ad E 1)), (3, (0, i))] S' G') : X cs ss 201 [] [(0, (2, (b : Int))), (1, (2, x)), (2, (2, Ad E 1)), (3, (0, i))] S G := by
  have hP := hPL1
  obtain ⟨t, rc, rm⟩ := rel
  refine r_ex hX hP 5 (pc' := 206) (st' := [(0, (i + 1)), (2, (b : Int)), (2, x)]) (lo' := [(0, (2, (b : Int))), (1, (2, x)), (2, (2, Ad E 1)), (3, (0, i))]) rfl ?_
  refine scr_rd hs hP rfl (by first | decide | omega) (by first | decide | omega) ?_
  have bb2 := hs.1 (i + 1)
  refine r_callV gd hX hP rfl cv_L_18_128 hx (d' := 2) (mc' := 0) (ms' := 0) (as' := [(0, (sv (i + 1)))]) (st := []) (by first | decide | omega) (by first | decide | omega) (by first | decide | omega) rfl rfl (Nat.le_of_ble_eq_true rfl) (k_asof E S G x (sv (i + 1)) hx (by first | decide | omega) (by first | decide | omega) ci t rc) ?_
  rintro _ _ _ ⟨rfl, ⟨G5, rfl⟩, rc3, z1, rfl, z1a, z1b, z1v⟩
  have ci6 : CI E S (hw [(128, 0), (129, 0), (129, 1)] G G5) := ci_hw ci rfl
  have mi7 : MI E (hw [(128, 0), (129, 0), (129, 1)] G G5) := mi_hwL mi rfl
  have rm4 : RelM E (hw [(128, 0), (129, 0), (129, 1)] G G5) t := relm_hwL rm rfl
  refine r_ex hX hP 6 (pc' := 216) (st' := [(0, (i + 1)), (2, (b : Int)), (2, Ad E 1)]) (lo' := [(0, (2, (b : Int))), (1, (2, x)), (2, (2, Ad E 1)), (3, (0, i))]) rfl ?_
  refine scr_rd hs hP rfl (by first | decide | omega) (by first | decide | omega) ?_
  have bb9 := hs.1 (i + 1)
  refine r_callV gd hX hP rfl cv_L_22_1 hm (d' := 2) (mc' := 0) (ms' := 0) (as' := [(0, (sv (i + 1)))]) (st := []) (by first | decide | omega) (by first | decide | omega) (by first | decide | omega) rfl rfl (Nat.le_of_ble_eq_true rfl) (l_asof E S (hw [(128, 0), (129, 0), (129, 1)] G G5) (sv (i + 1)) hm (by first | decide | omega) (by first | decide | omega) t rm4) ?_
  rintro _ _ _ ⟨rfl, ⟨G13, rfl⟩, z8, rfl, z8a, z8b, z8v, rm11⟩
  refine r_ex hX hP 2 (pc' := 1661) (st' := []) (lo' := [(0, (2, (b : Int))), (1, (2, x)), (2, (2, Ad E 1)), (3, (0, i))]) rfl ?_
  exact kk _ _ _ _ (by first | decide | omega) (by first | decide | omega) hx hm (ci_hvL ci6 rfl) (mi_keep mi7 rfl rfl rfl rfl rfl rfl (fun _ => rfl) (fun _ => rfl) (fun _ => rfl) (fun _ => rfl) (fun _ => rfl) (fun _ => rfl) (fun _ => rfl) (fun _ => rfl) (fun _ => rfl) (fun _ => rfl) (fun _ => rfl) (fun _ => rfl) (fun _ => rfl)) ⟨_, (relc_frm ci6 rc3 (frm_hv rfl rfl)), rm11⟩
def PL2 : Cod := [(224, .aload_n 1, 1), (225, .aload_n 0, 1), (226, .iload_n 3, 1), (227, .iconst 1, 1), (228, .iadd, 1), (229, .iaload, 1), (230, .aload_n 0, 1), (231, .iload_n 3, 1), (232, .iconst 2, 1), (233, .iadd, 1), (234, .iaload, 1), (235, .aload_n 0, 1), (236, .iload_n 3, 1), (237, .iconst 3, 1), (238, .iadd, 1), (239, .iaload, 1), (240, .invokevirtual 23, 3), (243, .pop, 1), (244, .aload_n 2, 1), (245, .aload_n 0, 1), (246, .iload_n 3, 1), (247, .iconst 1, 1), (248, .iadd, 1), (249, .iaload, 1), (250, .aload_n 0, 1), (251, .iload_n 3, 1), (252, .iconst 2, 1), (253, .iadd, 1), (254, .iaload, 1), (255, .aload_n 0, 1), (256, .iload_n 3, 1), (257, .iconst 3, 1), (258, .iadd, 1), (259, .iaload, 1), (260, .invokevirtual 27, 3), (263, .pop, 1), (264, .goto 1397, 3)]
theorem hPL2 : Dec code PL2 := dec_of (by decide +kernel)
set_option maxRecDepth 100000 in
set_option maxHeartbeats 4000000 in
theorem law_2 {E : En} {nm : String} {as : List Vl} {mc ms : Nat} {Y : Option Vl → Sg → Gh → Prop} {X : Xp} {b L : Nat} {sv : Int → Int} (hX : Cl E (mL nm) as 840 mc ms Y X) (hs : Scr X b L sv) {cs ss : Nat} {S : Sg} {G : Gh} {x i : Int} (i0 : 0 ≤ i) (i1 : i + 8 ≤ L) (i2 : i ≤ 4096) (hx : S x = 128) (hm : S (Ad E 1) = 1) (ci : CI E S G) (mi : MI E G) (rel : ∃ t : Tz, RelC S G x t ∧ RelM E G t) (hc : cs + 704 ≤ mc) (hq : ss + 6964 ≤ ms) (kk : ∀ (cs' ss' : Nat) (S' : Sg) (G' : Gh), cs' ≤ cs + 704 → ss' ≤ ss + 6964 → S' x = 128 → S' (Ad E 1) = 1 → CI E S' G' → MI E G' → (∃ t : Tz, RelC S' G' x t ∧ RelM E G' t) → X cs' ss' 1661 [] [(0, (2, (b : Int))), (1, (2, x)), (2, (2, Ad E 1)), (3, (0, i))] S' G') : X cs ss 224 [] [(0, (2, (b : Int))), (1, (2, x)), (2, (2, Ad E 1)), (3, (0, i))] S G := by
  have hP := hPL2
  obtain ⟨t, rc, rm⟩ := rel
  refine r_ex hX hP 5 (pc' := 229) (st' := [(0, (i + 1)), (2, (b : Int)), (2, x)]) (lo' := [(0, (2, (b : Int))), (1, (2, x)), (2, (2, Ad E 1)), (3, (0, i))]) rfl ?_
  refine scr_rd hs hP rfl (by first | decide | omega) (by first | decide | omega) ?_
  refine r_ex hX hP 4 (pc' := 234) (st' := [(0, (i + 2)), (2, (b : Int)), (0, (sv (i + 1))), (2, x)]) (lo' := [(0, (2, (b : Int))), (1, (2, x)), (2, (2, Ad E 1)), (3, (0, i))]) rfl ?_
  refine scr_rd hs hP rfl (by first | decide | omega) (by first | decide | omega) ?_
  refine r_ex hX hP 4 (pc' := 239) (st' := [(0, (i + 3)), (2, (b : Int)), (0, (sv (i + 2))), (0, (sv (i + 1))), (2, x)]) (lo' := [(0, (2, (b : Int))), (1, (2, x)), (2, (2, Ad E 1)), (3, (0, i))]) rfl ?_
  refine scr_rd hs hP rfl (by first | decide | omega) (by first | decide | omega) ?_
  have bb2 := hs.1 (i + 1)
  have bb3 := hs.1 (i + 2)
  have bb4 := hs.1 (i + 3)
  refine r_callV gd hX hP rfl cv_L_23_128 hx (d' := 2) (mc' := 0) (ms' := 0) (as' := [(0, (sv (i + 1))), (0, (sv (i + 2))), (0, (sv (i + 3)))]) (st := []) (by first | decide | omega) (by first | decide | omega) (by first | decide | omega) rfl rfl (Nat.le_of_ble_eq_true rfl) (k_account E S G x (sv (i + 1)) (sv (i + 2)) (sv (i + 3)) hx (by first | decide | omega) (by first | decide | omega) (by first | decide | omega) (by first | decide | omega) (by first | decide | omega) (by first | decide | omega) ci t rc) ?_
  rintro _ _ _ ⟨rfl, ⟨G7, rfl⟩, rc5, z1, rfl, z1a, z1b, z1v⟩
  have ci8 : CI E S (hw [(93, -1), (94, -1), (128, 0), (129, 1), (130, 0)] G G7) := ci_hw ci rfl
  have mi9 : MI E (hw [(93, -1), (94, -1), (128, 0), (129, 1), (130, 0)] G G7) := mi_hwL mi rfl
  have rm6 : RelM E (hw [(93, -1), (94, -1), (128, 0), (129, 1), (130, 0)] G G7) t := relm_hwL rm rfl
  refine r_ex hX hP 6 (pc' := 249) (st' := [(0, (i + 1)), (2, (b : Int)), (2, Ad E 1)]) (lo' := [(0, (2, (b : Int))), (1, (2, x)), (2, (2, Ad E 1)), (3, (0, i))]) rfl ?_
  refine scr_rd hs hP rfl (by first | decide | omega) (by first | decide | omega) ?_
  refine r_ex hX hP 4 (pc' := 254) (st' := [(0, (i + 2)), (2, (b : Int)), (0, (sv (i + 1))), (2, Ad E 1)]) (lo' := [(0, (2, (b : Int))), (1, (2, x)), (2, (2, Ad E 1)), (3, (0, i))]) rfl ?_
  refine scr_rd hs hP rfl (by first | decide | omega) (by first | decide | omega) ?_
  refine r_ex hX hP 4 (pc' := 259) (st' := [(0, (i + 3)), (2, (b : Int)), (0, (sv (i + 2))), (0, (sv (i + 1))), (2, Ad E 1)]) (lo' := [(0, (2, (b : Int))), (1, (2, x)), (2, (2, Ad E 1)), (3, (0, i))]) rfl ?_
  refine scr_rd hs hP rfl (by first | decide | omega) (by first | decide | omega) ?_
  have bb11 := hs.1 (i + 1)
  have bb12 := hs.1 (i + 2)
  have bb13 := hs.1 (i + 3)
  refine r_callV gd hX hP rfl cv_L_27_1 hm (d' := 2) (mc' := 0) (ms' := 0) (as' := [(0, (sv (i + 1))), (0, (sv (i + 2))), (0, (sv (i + 3)))]) (st := []) (by first | decide | omega) (by first | decide | omega) (by first | decide | omega) rfl rfl (Nat.le_of_ble_eq_true rfl) (l_account E S (hw [(93, -1), (94, -1), (128, 0), (129, 1), (130, 0)] G G7) (sv (i + 1)) (sv (i + 2)) (sv (i + 3)) hm (by first | decide | omega) (by first | decide | omega) (by first | decide | omega) (by first | decide | omega) (by first | decide | omega) (by first | decide | omega) mi9 t rm6) ?_
  rintro _ _ _ ⟨rfl, ⟨G17, rfl⟩, z10, rfl, z10a, z10b, z10v, rm15, mi16⟩
  refine r_ex hX hP 2 (pc' := 1661) (st' := []) (lo' := [(0, (2, (b : Int))), (1, (2, x)), (2, (2, Ad E 1)), (3, (0, i))]) rfl ?_
  exact kk _ _ _ _ (by first | decide | omega) (by first | decide | omega) hx hm (ci_hvL ci8 rfl) mi16 ⟨_, (relc_frm ci8 rc5 (frm_hv rfl rfl)), rm15⟩
def PL3 : Cod := [(267, .aload_n 1, 1), (268, .aload_n 0, 1), (269, .iload_n 3, 1), (270, .iconst 1, 1), (271, .iadd, 1), (272, .iaload, 1), (273, .aload_n 0, 1), (274, .iload_n 3, 1), (275, .iconst 2, 1), (276, .iadd, 1), (277, .iaload, 1), (278, .aload_n 0, 1), (279, .iload_n 3, 1), (280, .iconst 3, 1), (281, .iadd, 1), (282, .iaload, 1), (283, .aload_n 0, 1), (284, .iload_n 3, 1), (285, .iconst 4, 1), (286, .iadd, 1), (287, .iaload, 1), (288, .aload_n 0, 1), (289, .iload_n 3, 1), (290, .iconst 5, 1), (291, .iadd, 1), (292, .iaload, 1), (293, .aload_n 0, 1), (294, .iload_n 3, 1), (295, .bipush 6, 2), (297, .iadd, 1), (298, .iaload, 1), (299, .invokevirtual 28, 3), (302, .pop, 1), (303, .aload_n 2, 1), (304, .aload_n 0, 1), (305, .iload_n 3, 1), (306, .iconst 1, 1), (307, .iadd, 1), (308, .iaload, 1), (309, .aload_n 0, 1), (310, .iload_n 3, 1), (311, .iconst 2, 1), (312, .iadd, 1), (313, .iaload, 1), (314, .aload_n 0, 1), (315, .iload_n 3, 1), (316, .iconst 3, 1), (317, .iadd, 1), (318, .iaload, 1), (319, .aload_n 0, 1), (320, .iload_n 3, 1), (321, .iconst 4, 1), (322, .iadd, 1), (323, .iaload, 1), (324, .aload_n 0, 1), (325, .iload_n 3, 1), (326, .iconst 5, 1), (327, .iadd, 1), (328, .iaload, 1), (329, .aload_n 0, 1), (330, .iload_n 3, 1), (331, .bipush 6, 2), (333, .iadd, 1), (334, .iaload, 1), (335, .invokevirtual 32, 3), (338, .pop, 1), (339, .goto 1322, 3)]
theorem hPL3 : Dec code PL3 := dec_of (by decide +kernel)
set_option maxRecDepth 100000 in
set_option maxHeartbeats 4000000 in
theorem law_3 {E : En} {nm : String} {as : List Vl} {mc ms : Nat} {Y : Option Vl → Sg → Gh → Prop} {X : Xp} {b L : Nat} {sv : Int → Int} (hX : Cl E (mL nm) as 840 mc ms Y X) (hs : Scr X b L sv) {cs ss : Nat} {S : Sg} {G : Gh} {x i : Int} (i0 : 0 ≤ i) (i1 : i + 8 ≤ L) (i2 : i ≤ 4096) (hx : S x = 128) (hm : S (Ad E 1) = 1) (ci : CI E S G) (mi : MI E G) (rel : ∃ t : Tz, RelC S G x t ∧ RelM E G t) (hc : cs + 704 ≤ mc) (hq : ss + 6964 ≤ ms) (kk : ∀ (cs' ss' : Nat) (S' : Sg) (G' : Gh), cs' ≤ cs + 704 → ss' ≤ ss + 6964 → S' x = 128 → S' (Ad E 1) = 1 → CI E S' G' → MI E G' → (∃ t : Tz, RelC S' G' x t ∧ RelM E G' t) → X cs' ss' 1661 [] [(0, (2, (b : Int))), (1, (2, x)), (2, (2, Ad E 1)), (3, (0, i))] S' G') : X cs ss 267 [] [(0, (2, (b : Int))), (1, (2, x)), (2, (2, Ad E 1)), (3, (0, i))] S G := by
  have hP := hPL3
  obtain ⟨t, rc, rm⟩ := rel
  refine r_ex hX hP 5 (pc' := 272) (st' := [(0, (i + 1)), (2, (b : Int)), (2, x)]) (lo' := [(0, (2, (b : Int))), (1, (2, x)), (2, (2, Ad E 1)), (3, (0, i))]) rfl ?_
  refine scr_rd hs hP rfl (by first | decide | omega) (by first | decide | omega) ?_
  refine r_ex hX hP 4 (pc' := 277) (st' := [(0, (i + 2)), (2, (b : Int)), (0, (sv (i + 1))), (2, x)]) (lo' := [(0, (2, (b : Int))), (1, (2, x)), (2, (2, Ad E 1)), (3, (0, i))]) rfl ?_
  refine scr_rd hs hP rfl (by first | decide | omega) (by first | decide | omega) ?_
  refine r_ex hX hP 4 (pc' := 282) (st' := [(0, (i + 3)), (2, (b : Int)), (0, (sv (i + 2))), (0, (sv (i + 1))), (2, x)]) (lo' := [(0, (2, (b : Int))), (1, (2, x)), (2, (2, Ad E 1)), (3, (0, i))]) rfl ?_
  refine scr_rd hs hP rfl (by first | decide | omega) (by first | decide | omega) ?_
  refine r_ex hX hP 4 (pc' := 287) (st' := [(0, (i + 4)), (2, (b : Int)), (0, (sv (i + 3))), (0, (sv (i + 2))), (0, (sv (i + 1))), (2, x)]) (lo' := [(0, (2, (b : Int))), (1, (2, x)), (2, (2, Ad E 1)), (3, (0, i))]) rfl ?_
  refine scr_rd hs hP rfl (by first | decide | omega) (by first | decide | omega) ?_
  refine r_ex hX hP 4 (pc' := 292) (st' := [(0, (i + 5)), (2, (b : Int)), (0, (sv (i + 4))), (0, (sv (i + 3))), (0, (sv (i + 2))), (0, (sv (i + 1))), (2, x)]) (lo' := [(0, (2, (b : Int))), (1, (2, x)), (2, (2, Ad E 1)), (3, (0, i))]) rfl ?_
  refine scr_rd hs hP rfl (by first | decide | omega) (by first | decide | omega) ?_
  refine r_ex hX hP 4 (pc' := 298) (st' := [(0, (i + 6)), (2, (b : Int)), (0, (sv (i + 5))), (0, (sv (i + 4))), (0, (sv (i + 3))), (0, (sv (i + 2))), (0, (sv (i + 1))), (2, x)]) (lo' := [(0, (2, (b : Int))), (1, (2, x)), (2, (2, Ad E 1)), (3, (0, i))]) rfl ?_
  refine scr_rd hs hP rfl (by first | decide | omega) (by first | decide | omega) ?_
  have bb2 := hs.1 (i + 1)
  have bb3 := hs.1 (i + 2)
  have bb4 := hs.1 (i + 3)
  have bb5 := hs.1 (i + 4)
  have bb6 := hs.1 (i + 5)
  have bb7 := hs.1 (i + 6)
  refine r_adl hX hm (fun ad8 => ?_)
  refine r_callV gd hX hP rfl cv_L_28_128 hx (d' := 15) (mc' := 2) (ms' := 82) (as' := [(0, (sv (i + 1))), (0, (sv (i + 2))), (0, (sv (i + 3))), (0, (sv (i + 4))), (0, (sv (i + 5))), (0, (sv (i + 6)))]) (st := []) (by first | decide | omega) (by first | decide | omega) (by first | decide | omega) rfl rfl (Nat.le_of_ble_eq_true rfl) (k_issue E S G x (sv (i + 1)) (sv (i + 2)) (sv (i + 3)) (sv (i + 4)) (sv (i + 5)) (sv (i + 6)) hx (by first | decide | omega) (by first | decide | omega) (by first | decide | omega) (by first | decide | omega) (by first | decide | omega) (by first | decide | omega) (by first | decide | omega) (by first | decide | omega) (by first | decide | omega) (by first | decide | omega) (by first | decide | omega) (by first | decide | omega) ci t rc) ?_
  rintro _ S11 G12 ⟨g13, rc9, z1, rfl, z1a, z1b, z1v, ci14⟩
  have hx16 := gr_lab g13 hx (by decide)
  have hm17 := gr_lab g13 hm (by decide)
  have mi15 := mi_gr mi hm ad8 g13 rfl
  have rm10 := relm_gr rm hm ad8 g13 rfl
  refine r_ex hX hP 6 (pc' := 308) (st' := [(0, (i + 1)), (2, (b : Int)), (2, Ad E 1)]) (lo' := [(0, (2, (b : Int))), (1, (2, x)), (2, (2, Ad E 1)), (3, (0, i))]) rfl ?_
  refine scr_rd hs hP rfl (by first | decide | omega) (by first | decide | omega) ?_
  refine r_ex hX hP 4 (pc' := 313) (st' := [(0, (i + 2)), (2, (b : Int)), (0, (sv (i + 1))), (2, Ad E 1)]) (lo' := [(0, (2, (b : Int))), (1, (2, x)), (2, (2, Ad E 1)), (3, (0, i))]) rfl ?_
  refine scr_rd hs hP rfl (by first | decide | omega) (by first | decide | omega) ?_
  refine r_ex hX hP 4 (pc' := 318) (st' := [(0, (i + 3)), (2, (b : Int)), (0, (sv (i + 2))), (0, (sv (i + 1))), (2, Ad E 1)]) (lo' := [(0, (2, (b : Int))), (1, (2, x)), (2, (2, Ad E 1)), (3, (0, i))]) rfl ?_
  refine scr_rd hs hP rfl (by first | decide | omega) (by first | decide | omega) ?_
  refine r_ex hX hP 4 (pc' := 323) (st' := [(0, (i + 4)), (2, (b : Int)), (0, (sv (i + 3))), (0, (sv (i + 2))), (0, (sv (i + 1))), (2, Ad E 1)]) (lo' := [(0, (2, (b : Int))), (1, (2, x)), (2, (2, Ad E 1)), (3, (0, i))]) rfl ?_
  refine scr_rd hs hP rfl (by first | decide | omega) (by first | decide | omega) ?_
  refine r_ex hX hP 4 (pc' := 328) (st' := [(0, (i + 5)), (2, (b : Int)), (0, (sv (i + 4))), (0, (sv (i + 3))), (0, (sv (i + 2))), (0, (sv (i + 1))), (2, Ad E 1)]) (lo' := [(0, (2, (b : Int))), (1, (2, x)), (2, (2, Ad E 1)), (3, (0, i))]) rfl ?_
  refine scr_rd hs hP rfl (by first | decide | omega) (by first | decide | omega) ?_
  refine r_ex hX hP 4 (pc' := 334) (st' := [(0, (i + 6)), (2, (b : Int)), (0, (sv (i + 5))), (0, (sv (i + 4))), (0, (sv (i + 3))), (0, (sv (i + 2))), (0, (sv (i + 1))), (2, Ad E 1)]) (lo' := [(0, (2, (b : Int))), (1, (2, x)), (2, (2, Ad E 1)), (3, (0, i))]) rfl ?_
  refine scr_rd hs hP rfl (by first | decide | omega) (by first | decide | omega) ?_
  have bb19 := hs.1 (i + 1)
  have bb20 := hs.1 (i + 2)
  have bb21 := hs.1 (i + 3)
  have bb22 := hs.1 (i + 4)
  have bb23 := hs.1 (i + 5)
  have bb24 := hs.1 (i + 6)
  refine r_callV gd hX hP rfl cv_L_32_1 hm17 (d' := 2) (mc' := 0) (ms' := 0) (as' := [(0, (sv (i + 1))), (0, (sv (i + 2))), (0, (sv (i + 3))), (0, (sv (i + 4))), (0, (sv (i + 5))), (0, (sv (i + 6)))]) (st := []) (by first | decide | omega) (by first | decide | omega) (by first | decide | omega) rfl rfl (Nat.le_of_ble_eq_true rfl) (l_issue E S11 G12 (sv (i + 1)) (sv (i + 2)) (sv (i + 3)) (sv (i + 4)) (sv (i + 5)) (sv (i + 6)) hm17 (by first | decide | omega) (by first | decide | omega) (by first | decide | omega) (by first | decide | omega) (by first | decide | omega) (by first | decide | omega) (by first | decide | omega) (by first | decide | omega) (by first | decide | omega) (by first | decide | omega) (by first | decide | omega) (by first | decide | omega) t rm10) ?_
  rintro _ _ _ ⟨rfl, ⟨G28, rfl⟩, z18, rfl, z18a, z18b, z18v, rm26⟩
  refine r_ex hX hP 2 (pc' := 1661) (st' := []) (lo' := [(0, (2, (b : Int))), (1, (2, x)), (2, (2, Ad E 1)), (3, (0, i))]) rfl ?_
  exact kk _ _ _ _ (by first | decide | omega) (by first | decide | omega) hx16 hm17 (ci_hvL ci14 rfl) (mi_keep mi15 rfl rfl rfl rfl rfl rfl (fun _ => rfl) (fun _ => rfl) (fun _ => rfl) (fun _ => rfl) (fun _ => rfl) (fun _ => rfl) (fun _ => rfl) (fun _ => rfl) (fun _ => rfl) (fun _ => rfl) (fun _ => rfl) (fun _ => rfl) (fun _ => rfl)) ⟨_, (relc_frm ci14 rc9 (frm_hv rfl rfl)), rm26⟩
def PL4 : Cod := [(342, .aload_n 1, 1), (343, .aload_n 0, 1), (344, .iload_n 3, 1), (345, .iconst 1, 1), (346, .iadd, 1), (347, .iaload, 1), (348, .aload_n 0, 1), (349, .iload_n 3, 1), (350, .iconst 2, 1), (351, .iadd, 1), (352, .iaload, 1), (353, .aload_n 0, 1), (354, .iload_n 3, 1), (355, .iconst 3, 1), (356, .iadd, 1), (357, .iaload, 1), (358, .aload_n 0, 1), (359, .iload_n 3, 1), (360, .iconst 4, 1), (361, .iadd, 1), (362, .iaload, 1), (363, .aload_n 0, 1), (364, .iload_n 3, 1), (365, .iconst 5, 1), (366, .iadd, 1), (367, .iaload, 1), (368, .aload_n 0, 1), (369, .iload_n 3, 1), (370, .bipush 6, 2), (372, .iadd, 1), (373, .iaload, 1), (374, .aload_n 0, 1), (375, .iload_n 3, 1), (376, .bipush 7, 2), (378, .iadd, 1), (379, .iaload, 1), (380, .invokevirtual 33, 3), (383, .pop, 1), (384, .aload_n 2, 1), (385, .aload_n 0, 1), (386, .iload_n 3, 1), (387, .iconst 1, 1), (388, .iadd, 1), (389, .iaload, 1), (390, .aload_n 0, 1), (391, .iload_n 3, 1), (392, .iconst 2, 1), (393, .iadd, 1), (394, .iaload, 1), (395, .aload_n 0, 1), (396, .iload_n 3, 1), (397, .iconst 3, 1), (398, .iadd, 1), (399, .iaload, 1), (400, .aload_n 0, 1), (401, .iload_n 3, 1), (402, .iconst 4, 1), (403, .iadd, 1), (404, .iaload, 1), (405, .aload_n 0, 1), (406, .iload_n 3, 1), (407, .iconst 5, 1), (408, .iadd, 1), (409, .iaload, 1), (410, .aload_n 0, 1), (411, .iload_n 3, 1), (412, .bipush 6, 2), (414, .iadd, 1), (415, .iaload, 1), (416, .aload_n 0, 1), (417, .iload_n 3, 1), (418, .bipush 7, 2), (420, .iadd, 1), (421, .iaload, 1), (422, .invokevirtual 37, 3), (425, .pop, 1), (426, .goto 1235, 3)]
theorem hPL4 : Dec code PL4 := dec_of (by decide +kernel)
set_option maxRecDepth 100000 in
set_option maxHeartbeats 4000000 in
theorem law_4 {E : En} {nm : String} {as : List Vl} {mc ms : Nat} {Y : Option Vl → Sg → Gh → Prop} {X : Xp} {b L : Nat} {sv : Int → Int} (hX : Cl E (mL nm) as 840 mc ms Y X) (hs : Scr X b L sv) {cs ss : Nat} {S : Sg} {G : Gh} {x i : Int} (i0 : 0 ≤ i) (i1 : i + 8 ≤ L) (i2 : i ≤ 4096) (hx : S x = 128) (hm : S (Ad E 1) = 1) (ci : CI E S G) (mi : MI E G) (rel : ∃ t : Tz, RelC S G x t ∧ RelM E G t) (hc : cs + 704 ≤ mc) (hq : ss + 6964 ≤ ms) (kk : ∀ (cs' ss' : Nat) (S' : Sg) (G' : Gh), cs' ≤ cs + 704 → ss' ≤ ss + 6964 → S' x = 128 → S' (Ad E 1) = 1 → CI E S' G' → MI E G' → (∃ t : Tz, RelC S' G' x t ∧ RelM E G' t) → X cs' ss' 1661 [] [(0, (2, (b : Int))), (1, (2, x)), (2, (2, Ad E 1)), (3, (0, i))] S' G') : X cs ss 342 [] [(0, (2, (b : Int))), (1, (2, x)), (2, (2, Ad E 1)), (3, (0, i))] S G := by
  have hP := hPL4
  obtain ⟨t, rc, rm⟩ := rel
  refine r_ex hX hP 5 (pc' := 347) (st' := [(0, (i + 1)), (2, (b : Int)), (2, x)]) (lo' := [(0, (2, (b : Int))), (1, (2, x)), (2, (2, Ad E 1)), (3, (0, i))]) rfl ?_
  refine scr_rd hs hP rfl (by first | decide | omega) (by first | decide | omega) ?_
  refine r_ex hX hP 4 (pc' := 352) (st' := [(0, (i + 2)), (2, (b : Int)), (0, (sv (i + 1))), (2, x)]) (lo' := [(0, (2, (b : Int))), (1, (2, x)), (2, (2, Ad E 1)), (3, (0, i))]) rfl ?_
  refine scr_rd hs hP rfl (by first | decide | omega) (by first | decide | omega) ?_
  refine r_ex hX hP 4 (pc' := 357) (st' := [(0, (i + 3)), (2, (b : Int)), (0, (sv (i + 2))), (0, (sv (i + 1))), (2, x)]) (lo' := [(0, (2, (b : Int))), (1, (2, x)), (2, (2, Ad E 1)), (3, (0, i))]) rfl ?_
  refine scr_rd hs hP rfl (by first | decide | omega) (by first | decide | omega) ?_
  refine r_ex hX hP 4 (pc' := 362) (st' := [(0, (i + 4)), (2, (b : Int)), (0, (sv (i + 3))), (0, (sv (i + 2))), (0, (sv (i + 1))), (2, x)]) (lo' := [(0, (2, (b : Int))), (1, (2, x)), (2, (2, Ad E 1)), (3, (0, i))]) rfl ?_
  refine scr_rd hs hP rfl (by first | decide | omega) (by first | decide | omega) ?_
  refine r_ex hX hP 4 (pc' := 367) (st' := [(0, (i + 5)), (2, (b : Int)), (0, (sv (i + 4))), (0, (sv (i + 3))), (0, (sv (i + 2))), (0, (sv (i + 1))), (2, x)]) (lo' := [(0, (2, (b : Int))), (1, (2, x)), (2, (2, Ad E 1)), (3, (0, i))]) rfl ?_
  refine scr_rd hs hP rfl (by first | decide | omega) (by first | decide | omega) ?_
  refine r_ex hX hP 4 (pc' := 373) (st' := [(0, (i + 6)), (2, (b : Int)), (0, (sv (i + 5))), (0, (sv (i + 4))), (0, (sv (i + 3))), (0, (sv (i + 2))), (0, (sv (i + 1))), (2, x)]) (lo' := [(0, (2, (b : Int))), (1, (2, x)), (2, (2, Ad E 1)), (3, (0, i))]) rfl ?_
  refine scr_rd hs hP rfl (by first | decide | omega) (by first | decide | omega) ?_
  refine r_ex hX hP 4 (pc' := 379) (st' := [(0, (i + 7)), (2, (b : Int)), (0, (sv (i + 6))), (0, (sv (i + 5))), (0, (sv (i + 4))), (0, (sv (i + 3))), (0, (sv (i + 2))), (0, (sv (i + 1))), (2, x)]) (lo' := [(0, (2, (b : Int))), (1, (2, x)), (2, (2, Ad E 1)), (3, (0, i))]) rfl ?_
  refine scr_rd hs hP rfl (by first | decide | omega) (by first | decide | omega) ?_
  have bb2 := hs.1 (i + 1)
  have bb3 := hs.1 (i + 2)
  have bb4 := hs.1 (i + 3)
  have bb5 := hs.1 (i + 4)
  have bb6 := hs.1 (i + 5)
  have bb7 := hs.1 (i + 6)
  have bb8 := hs.1 (i + 7)
  refine r_adl hX hm (fun ad9 => ?_)
  refine r_callV gd hX hP rfl cv_L_33_128 hx (d' := 15) (mc' := 2) (ms' := 82) (as' := [(0, (sv (i + 1))), (0, (sv (i + 2))), (0, (sv (i + 3))), (0, (sv (i + 4))), (0, (sv (i + 5))), (0, (sv (i + 6))), (0, (sv (i + 7)))]) (st := []) (by first | decide | omega) (by first | decide | omega) (by first | decide | omega) rfl rfl (Nat.le_of_ble_eq_true rfl) (k_trade E S G x (sv (i + 1)) (sv (i + 2)) (sv (i + 3)) (sv (i + 4)) (sv (i + 5)) (sv (i + 6)) (sv (i + 7)) hx (by first | decide | omega) (by first | decide | omega) (by first | decide | omega) (by first | decide | omega) (by first | decide | omega) (by first | decide | omega) (by first | decide | omega) (by first | decide | omega) (by first | decide | omega) (by first | decide | omega) (by first | decide | omega) (by first | decide | omega) (by first | decide | omega) (by first | decide | omega) ci t rc) ?_
  rintro _ S12 G13 ⟨g14, rc10, z1, rfl, z1a, z1b, z1v, ci15⟩
  have hx17 := gr_lab g14 hx (by decide)
  have hm18 := gr_lab g14 hm (by decide)
  have mi16 := mi_gr mi hm ad9 g14 rfl
  have rm11 := relm_gr rm hm ad9 g14 rfl
  refine r_ex hX hP 6 (pc' := 389) (st' := [(0, (i + 1)), (2, (b : Int)), (2, Ad E 1)]) (lo' := [(0, (2, (b : Int))), (1, (2, x)), (2, (2, Ad E 1)), (3, (0, i))]) rfl ?_
  refine scr_rd hs hP rfl (by first | decide | omega) (by first | decide | omega) ?_
  refine r_ex hX hP 4 (pc' := 394) (st' := [(0, (i + 2)), (2, (b : Int)), (0, (sv (i + 1))), (2, Ad E 1)]) (lo' := [(0, (2, (b : Int))), (1, (2, x)), (2, (2, Ad E 1)), (3, (0, i))]) rfl ?_
  refine scr_rd hs hP rfl (by first | decide | omega) (by first | decide | omega) ?_
  refine r_ex hX hP 4 (pc' := 399) (st' := [(0, (i + 3)), (2, (b : Int)), (0, (sv (i + 2))), (0, (sv (i + 1))), (2, Ad E 1)]) (lo' := [(0, (2, (b : Int))), (1, (2, x)), (2, (2, Ad E 1)), (3, (0, i))]) rfl ?_
  refine scr_rd hs hP rfl (by first | decide | omega) (by first | decide | omega) ?_
  refine r_ex hX hP 4 (pc' := 404) (st' := [(0, (i + 4)), (2, (b : Int)), (0, (sv (i + 3))), (0, (sv (i + 2))), (0, (sv (i + 1))), (2, Ad E 1)]) (lo' := [(0, (2, (b : Int))), (1, (2, x)), (2, (2, Ad E 1)), (3, (0, i))]) rfl ?_
  refine scr_rd hs hP rfl (by first | decide | omega) (by first | decide | omega) ?_
  refine r_ex hX hP 4 (pc' := 409) (st' := [(0, (i + 5)), (2, (b : Int)), (0, (sv (i + 4))), (0, (sv (i + 3))), (0, (sv (i + 2))), (0, (sv (i + 1))), (2, Ad E 1)]) (lo' := [(0, (2, (b : Int))), (1, (2, x)), (2, (2, Ad E 1)), (3, (0, i))]) rfl ?_
  refine scr_rd hs hP rfl (by first | decide | omega) (by first | decide | omega) ?_
  refine r_ex hX hP 4 (pc' := 415) (st' := [(0, (i + 6)), (2, (b : Int)), (0, (sv (i + 5))), (0, (sv (i + 4))), (0, (sv (i + 3))), (0, (sv (i + 2))), (0, (sv (i + 1))), (2, Ad E 1)]) (lo' := [(0, (2, (b : Int))), (1, (2, x)), (2, (2, Ad E 1)), (3, (0, i))]) rfl ?_
  refine scr_rd hs hP rfl (by first | decide | omega) (by first | decide | omega) ?_
  refine r_ex hX hP 4 (pc' := 421) (st' := [(0, (i + 7)), (2, (b : Int)), (0, (sv (i + 6))), (0, (sv (i + 5))), (0, (sv (i + 4))), (0, (sv (i + 3))), (0, (sv (i + 2))), (0, (sv (i + 1))), (2, Ad E 1)]) (lo' := [(0, (2, (b : Int))), (1, (2, x)), (2, (2, Ad E 1)), (3, (0, i))]) rfl ?_
  refine scr_rd hs hP rfl (by first | decide | omega) (by first | decide | omega) ?_
  have bb20 := hs.1 (i + 1)
  have bb21 := hs.1 (i + 2)
  have bb22 := hs.1 (i + 3)
  have bb23 := hs.1 (i + 4)
  have bb24 := hs.1 (i + 5)
  have bb25 := hs.1 (i + 6)
  have bb26 := hs.1 (i + 7)
  refine r_callV gd hX hP rfl cv_L_37_1 hm18 (d' := 2) (mc' := 0) (ms' := 0) (as' := [(0, (sv (i + 1))), (0, (sv (i + 2))), (0, (sv (i + 3))), (0, (sv (i + 4))), (0, (sv (i + 5))), (0, (sv (i + 6))), (0, (sv (i + 7)))]) (st := []) (by first | decide | omega) (by first | decide | omega) (by first | decide | omega) rfl rfl (Nat.le_of_ble_eq_true rfl) (l_trade E S12 G13 (sv (i + 1)) (sv (i + 2)) (sv (i + 3)) (sv (i + 4)) (sv (i + 5)) (sv (i + 6)) (sv (i + 7)) hm18 (by first | decide | omega) (by first | decide | omega) (by first | decide | omega) (by first | decide | omega) (by first | decide | omega) (by first | decide | omega) (by first | decide | omega) (by first | decide | omega) (by first | decide | omega) (by first | decide | omega) (by first | decide | omega) (by first | decide | omega) (by first | decide | omega) (by first | decide | omega) mi16 t rm11) ?_
  rintro _ _ _ ⟨rfl, ⟨G30, rfl⟩, z19, rfl, z19a, z19b, z19v, rm28, mi29⟩
  refine r_ex hX hP 2 (pc' := 1661) (st' := []) (lo' := [(0, (2, (b : Int))), (1, (2, x)), (2, (2, Ad E 1)), (3, (0, i))]) rfl ?_
  exact kk _ _ _ _ (by first | decide | omega) (by first | decide | omega) hx17 hm18 (ci_hvL ci15 rfl) mi29 ⟨_, (relc_frm ci15 rc10 (frm_hv rfl rfl)), rm28⟩
def PL5 : Cod := [(429, .aload_n 1, 1), (430, .aload_n 0, 1), (431, .iload_n 3, 1), (432, .iconst 1, 1), (433, .iadd, 1), (434, .iaload, 1), (435, .aload_n 0, 1), (436, .iload_n 3, 1), (437, .iconst 2, 1), (438, .iadd, 1), (439, .iaload, 1), (440, .aload_n 0, 1), (441, .iload_n 3, 1), (442, .iconst 3, 1), (443, .iadd, 1), (444, .iaload, 1), (445, .aload_n 0, 1), (446, .iload_n 3, 1), (447, .iconst 4, 1), (448, .iadd, 1), (449, .iaload, 1), (450, .aload_n 0, 1), (451, .iload_n 3, 1), (452, .iconst 5, 1), (453, .iadd, 1), (454, .iaload, 1), (455, .invokevirtual 38, 3), (458, .pop, 1), (459, .aload_n 2, 1), (460, .aload_n 0, 1), (461, .iload_n 3, 1), (462, .iconst 1, 1), (463, .iadd, 1), (464, .iaload, 1), (465, .aload_n 0, 1), (466, .iload_n 3, 1), (467, .iconst 2, 1), (468, .iadd, 1), (469, .iaload, 1), (470, .aload_n 0, 1), (471, .iload_n 3, 1), (472, .iconst 3, 1), (473, .iadd, 1), (474, .iaload, 1), (475, .aload_n 0, 1), (476, .iload_n 3, 1), (477, .iconst 4, 1), (478, .iadd, 1), (479, .iaload, 1), (480, .aload_n 0, 1), (481, .iload_n 3, 1), (482, .iconst 5, 1), (483, .iadd, 1), (484, .iaload, 1), (485, .invokevirtual 42, 3), (488, .pop, 1), (489, .goto 1172, 3)]
theorem hPL5 : Dec code PL5 := dec_of (by decide +kernel)
set_option maxRecDepth 100000 in
set_option maxHeartbeats 4000000 in
theorem law_5 {E : En} {nm : String} {as : List Vl} {mc ms : Nat} {Y : Option Vl → Sg → Gh → Prop} {X : Xp} {b L : Nat} {sv : Int → Int} (hX : Cl E (mL nm) as 840 mc ms Y X) (hs : Scr X b L sv) {cs ss : Nat} {S : Sg} {G : Gh} {x i : Int} (i0 : 0 ≤ i) (i1 : i + 8 ≤ L) (i2 : i ≤ 4096) (hx : S x = 128) (hm : S (Ad E 1) = 1) (ci : CI E S G) (mi : MI E G) (rel : ∃ t : Tz, RelC S G x t ∧ RelM E G t) (hc : cs + 704 ≤ mc) (hq : ss + 6964 ≤ ms) (kk : ∀ (cs' ss' : Nat) (S' : Sg) (G' : Gh), cs' ≤ cs + 704 → ss' ≤ ss + 6964 → S' x = 128 → S' (Ad E 1) = 1 → CI E S' G' → MI E G' → (∃ t : Tz, RelC S' G' x t ∧ RelM E G' t) → X cs' ss' 1661 [] [(0, (2, (b : Int))), (1, (2, x)), (2, (2, Ad E 1)), (3, (0, i))] S' G') : X cs ss 429 [] [(0, (2, (b : Int))), (1, (2, x)), (2, (2, Ad E 1)), (3, (0, i))] S G := by
  have hP := hPL5
  obtain ⟨t, rc, rm⟩ := rel
  refine r_ex hX hP 5 (pc' := 434) (st' := [(0, (i + 1)), (2, (b : Int)), (2, x)]) (lo' := [(0, (2, (b : Int))), (1, (2, x)), (2, (2, Ad E 1)), (3, (0, i))]) rfl ?_
  refine scr_rd hs hP rfl (by first | decide | omega) (by first | decide | omega) ?_
  refine r_ex hX hP 4 (pc' := 439) (st' := [(0, (i + 2)), (2, (b : Int)), (0, (sv (i + 1))), (2, x)]) (lo' := [(0, (2, (b : Int))), (1, (2, x)), (2, (2, Ad E 1)), (3, (0, i))]) rfl ?_
  refine scr_rd hs hP rfl (by first | decide | omega) (by first | decide | omega) ?_
  refine r_ex hX hP 4 (pc' := 444) (st' := [(0, (i + 3)), (2, (b : Int)), (0, (sv (i + 2))), (0, (sv (i + 1))), (2, x)]) (lo' := [(0, (2, (b : Int))), (1, (2, x)), (2, (2, Ad E 1)), (3, (0, i))]) rfl ?_
  refine scr_rd hs hP rfl (by first | decide | omega) (by first | decide | omega) ?_
  refine r_ex hX hP 4 (pc' := 449) (st' := [(0, (i + 4)), (2, (b : Int)), (0, (sv (i + 3))), (0, (sv (i + 2))), (0, (sv (i + 1))), (2, x)]) (lo' := [(0, (2, (b : Int))), (1, (2, x)), (2, (2, Ad E 1)), (3, (0, i))]) rfl ?_
  refine scr_rd hs hP rfl (by first | decide | omega) (by first | decide | omega) ?_
  refine r_ex hX hP 4 (pc' := 454) (st' := [(0, (i + 5)), (2, (b : Int)), (0, (sv (i + 4))), (0, (sv (i + 3))), (0, (sv (i + 2))), (0, (sv (i + 1))), (2, x)]) (lo' := [(0, (2, (b : Int))), (1, (2, x)), (2, (2, Ad E 1)), (3, (0, i))]) rfl ?_
  refine scr_rd hs hP rfl (by first | decide | omega) (by first | decide | omega) ?_
  have bb2 := hs.1 (i + 1)
  have bb3 := hs.1 (i + 2)
  have bb4 := hs.1 (i + 3)
  have bb5 := hs.1 (i + 4)
  have bb6 := hs.1 (i + 5)
  refine r_callV gd hX hP rfl cv_L_38_128 hx (d' := 1) (mc' := 0) (ms' := 0) (as' := [(0, (sv (i + 1))), (0, (sv (i + 2))), (0, (sv (i + 3))), (0, (sv (i + 4))), (0, (sv (i + 5)))]) (st := []) (by first | decide | omega) (by first | decide | omega) (by first | decide | omega) rfl rfl (Nat.le_of_ble_eq_true rfl) (k_feed E S G x (sv (i + 1)) (sv (i + 2)) (sv (i + 3)) (sv (i + 4)) (sv (i + 5)) hx (by first | decide | omega) (by first | decide | omega) (by first | decide | omega) (by first | decide | omega) (by first | decide | omega) (by first | decide | omega) (by first | decide | omega) (by first | decide | omega) (by first | decide | omega) (by first | decide | omega) ci t rc) ?_
  rintro _ _ _ ⟨rfl, ⟨G9, rfl⟩, rc7, z1, rfl, z1a, z1b, z1v⟩
  have ci10 : CI E S (hw [(105, -1), (131, 0)] G G9) := ci_hw ci rfl
  have mi11 : MI E (hw [(105, -1), (131, 0)] G G9) := mi_hwL mi rfl
  have rm8 : RelM E (hw [(105, -1), (131, 0)] G G9) t := relm_hwL rm rfl
  refine r_ex hX hP 6 (pc' := 464) (st' := [(0, (i + 1)), (2, (b : Int)), (2, Ad E 1)]) (lo' := [(0, (2, (b : Int))), (1, (2, x)), (2, (2, Ad E 1)), (3, (0, i))]) rfl ?_
  refine scr_rd hs hP rfl (by first | decide | omega) (by first | decide | omega) ?_
  refine r_ex hX hP 4 (pc' := 469) (st' := [(0, (i + 2)), (2, (b : Int)), (0, (sv (i + 1))), (2, Ad E 1)]) (lo' := [(0, (2, (b : Int))), (1, (2, x)), (2, (2, Ad E 1)), (3, (0, i))]) rfl ?_
  refine scr_rd hs hP rfl (by first | decide | omega) (by first | decide | omega) ?_
  refine r_ex hX hP 4 (pc' := 474) (st' := [(0, (i + 3)), (2, (b : Int)), (0, (sv (i + 2))), (0, (sv (i + 1))), (2, Ad E 1)]) (lo' := [(0, (2, (b : Int))), (1, (2, x)), (2, (2, Ad E 1)), (3, (0, i))]) rfl ?_
  refine scr_rd hs hP rfl (by first | decide | omega) (by first | decide | omega) ?_
  refine r_ex hX hP 4 (pc' := 479) (st' := [(0, (i + 4)), (2, (b : Int)), (0, (sv (i + 3))), (0, (sv (i + 2))), (0, (sv (i + 1))), (2, Ad E 1)]) (lo' := [(0, (2, (b : Int))), (1, (2, x)), (2, (2, Ad E 1)), (3, (0, i))]) rfl ?_
  refine scr_rd hs hP rfl (by first | decide | omega) (by first | decide | omega) ?_
  refine r_ex hX hP 4 (pc' := 484) (st' := [(0, (i + 5)), (2, (b : Int)), (0, (sv (i + 4))), (0, (sv (i + 3))), (0, (sv (i + 2))), (0, (sv (i + 1))), (2, Ad E 1)]) (lo' := [(0, (2, (b : Int))), (1, (2, x)), (2, (2, Ad E 1)), (3, (0, i))]) rfl ?_
  refine scr_rd hs hP rfl (by first | decide | omega) (by first | decide | omega) ?_
  have bb13 := hs.1 (i + 1)
  have bb14 := hs.1 (i + 2)
  have bb15 := hs.1 (i + 3)
  have bb16 := hs.1 (i + 4)
  have bb17 := hs.1 (i + 5)
  refine r_callV gd hX hP rfl cv_L_42_1 hm (d' := 1) (mc' := 0) (ms' := 0) (as' := [(0, (sv (i + 1))), (0, (sv (i + 2))), (0, (sv (i + 3))), (0, (sv (i + 4))), (0, (sv (i + 5)))]) (st := []) (by first | decide | omega) (by first | decide | omega) (by first | decide | omega) rfl rfl (Nat.le_of_ble_eq_true rfl) (l_feed E S (hw [(105, -1), (131, 0)] G G9) (sv (i + 1)) (sv (i + 2)) (sv (i + 3)) (sv (i + 4)) (sv (i + 5)) hm (by first | decide | omega) (by first | decide | omega) (by first | decide | omega) (by first | decide | omega) (by first | decide | omega) (by first | decide | omega) (by first | decide | omega) (by first | decide | omega) (by first | decide | omega) (by first | decide | omega) t rm8) ?_
  rintro _ _ _ ⟨rfl, ⟨G21, rfl⟩, z12, rfl, z12a, z12b, z12v, rm19⟩
  refine r_ex hX hP 2 (pc' := 1661) (st' := []) (lo' := [(0, (2, (b : Int))), (1, (2, x)), (2, (2, Ad E 1)), (3, (0, i))]) rfl ?_
  exact kk _ _ _ _ (by first | decide | omega) (by first | decide | omega) hx hm (ci_hvL ci10 rfl) (mi_keep mi11 rfl rfl rfl rfl rfl rfl (fun _ => rfl) (fun _ => rfl) (fun _ => rfl) (fun _ => rfl) (fun _ => rfl) (fun _ => rfl) (fun _ => rfl) (fun _ => rfl) (fun _ => rfl) (fun _ => rfl) (fun _ => rfl) (fun _ => rfl) (fun _ => rfl)) ⟨_, (relc_frm ci10 rc7 (frm_hv rfl rfl)), rm19⟩
def PL6 : Cod := [(492, .aload_n 1, 1), (493, .aload_n 0, 1), (494, .iload_n 3, 1), (495, .iconst 1, 1), (496, .iadd, 1), (497, .iaload, 1), (498, .aload_n 0, 1), (499, .iload_n 3, 1), (500, .iconst 2, 1), (501, .iadd, 1), (502, .iaload, 1), (503, .aload_n 0, 1), (504, .iload_n 3, 1), (505, .iconst 3, 1), (506, .iadd, 1), (507, .iaload, 1), (508, .aload_n 0, 1), (509, .iload_n 3, 1), (510, .iconst 4, 1), (511, .iadd, 1), (512, .iaload, 1), (513, .aload_n 0, 1), (514, .iload_n 3, 1), (515, .iconst 5, 1), (516, .iadd, 1), (517, .iaload, 1), (518, .aload_n 0, 1), (519, .iload_n 3, 1), (520, .bipush 6, 2), (522, .iadd, 1), (523, .iaload, 1), (524, .invokevirtual 43, 3), (527, .aload_n 2, 1), (528, .aload_n 0, 1), (529, .iload_n 3, 1), (530, .iconst 1, 1), (531, .iadd, 1), (532, .iaload, 1), (533, .aload_n 0, 1), (534, .iload_n 3, 1), (535, .iconst 2, 1), (536, .iadd, 1), (537, .iaload, 1), (538, .aload_n 0, 1), (539, .iload_n 3, 1), (540, .iconst 3, 1), (541, .iadd, 1), (542, .iaload, 1), (543, .aload_n 0, 1), (544, .iload_n 3, 1), (545, .iconst 4, 1), (546, .iadd, 1), (547, .iaload, 1), (548, .aload_n 0, 1), (549, .iload_n 3, 1), (550, .iconst 5, 1), (551, .iadd, 1), (552, .iaload, 1), (553, .aload_n 0, 1), (554, .iload_n 3, 1), (555, .bipush 6, 2), (557, .iadd, 1), (558, .iaload, 1), (559, .invokevirtual 47, 3), (562, .if_icmp .eq 1099, 3), (565, .iconst 0, 1), (566, .ireturn, 1)]
theorem hPL6 : Dec code PL6 := dec_of (by decide +kernel)
set_option maxRecDepth 100000 in
set_option maxHeartbeats 4000000 in
theorem law_6 {E : En} {nm : String} {as : List Vl} {mc ms : Nat} {Y : Option Vl → Sg → Gh → Prop} {X : Xp} {b L : Nat} {sv : Int → Int} (hX : Cl E (mL nm) as 840 mc ms Y X) (hs : Scr X b L sv) {cs ss : Nat} {S : Sg} {G : Gh} {x i : Int} (i0 : 0 ≤ i) (i1 : i + 8 ≤ L) (i2 : i ≤ 4096) (hx : S x = 128) (hm : S (Ad E 1) = 1) (ci : CI E S G) (mi : MI E G) (rel : ∃ t : Tz, RelC S G x t ∧ RelM E G t) (hc : cs + 704 ≤ mc) (hq : ss + 6964 ≤ ms) (kk : ∀ (cs' ss' : Nat) (S' : Sg) (G' : Gh), cs' ≤ cs + 704 → ss' ≤ ss + 6964 → S' x = 128 → S' (Ad E 1) = 1 → CI E S' G' → MI E G' → (∃ t : Tz, RelC S' G' x t ∧ RelM E G' t) → X cs' ss' 1661 [] [(0, (2, (b : Int))), (1, (2, x)), (2, (2, Ad E 1)), (3, (0, i))] S' G') : X cs ss 492 [] [(0, (2, (b : Int))), (1, (2, x)), (2, (2, Ad E 1)), (3, (0, i))] S G := by
  have hP := hPL6
  obtain ⟨t, rc, rm⟩ := rel
  refine r_ex hX hP 5 (pc' := 497) (st' := [(0, (i + 1)), (2, (b : Int)), (2, x)]) (lo' := [(0, (2, (b : Int))), (1, (2, x)), (2, (2, Ad E 1)), (3, (0, i))]) rfl ?_
  refine scr_rd hs hP rfl (by first | decide | omega) (by first | decide | omega) ?_
  refine r_ex hX hP 4 (pc' := 502) (st' := [(0, (i + 2)), (2, (b : Int)), (0, (sv (i + 1))), (2, x)]) (lo' := [(0, (2, (b : Int))), (1, (2, x)), (2, (2, Ad E 1)), (3, (0, i))]) rfl ?_
  refine scr_rd hs hP rfl (by first | decide | omega) (by first | decide | omega) ?_
  refine r_ex hX hP 4 (pc' := 507) (st' := [(0, (i + 3)), (2, (b : Int)), (0, (sv (i + 2))), (0, (sv (i + 1))), (2, x)]) (lo' := [(0, (2, (b : Int))), (1, (2, x)), (2, (2, Ad E 1)), (3, (0, i))]) rfl ?_
  refine scr_rd hs hP rfl (by first | decide | omega) (by first | decide | omega) ?_
  refine r_ex hX hP 4 (pc' := 512) (st' := [(0, (i + 4)), (2, (b : Int)), (0, (sv (i + 3))), (0, (sv (i + 2))), (0, (sv (i + 1))), (2, x)]) (lo' := [(0, (2, (b : Int))), (1, (2, x)), (2, (2, Ad E 1)), (3, (0, i))]) rfl ?_
  refine scr_rd hs hP rfl (by first | decide | omega) (by first | decide | omega) ?_
  refine r_ex hX hP 4 (pc' := 517) (st' := [(0, (i + 5)), (2, (b : Int)), (0, (sv (i + 4))), (0, (sv (i + 3))), (0, (sv (i + 2))), (0, (sv (i + 1))), (2, x)]) (lo' := [(0, (2, (b : Int))), (1, (2, x)), (2, (2, Ad E 1)), (3, (0, i))]) rfl ?_
  refine scr_rd hs hP rfl (by first | decide | omega) (by first | decide | omega) ?_
  refine r_ex hX hP 4 (pc' := 523) (st' := [(0, (i + 6)), (2, (b : Int)), (0, (sv (i + 5))), (0, (sv (i + 4))), (0, (sv (i + 3))), (0, (sv (i + 2))), (0, (sv (i + 1))), (2, x)]) (lo' := [(0, (2, (b : Int))), (1, (2, x)), (2, (2, Ad E 1)), (3, (0, i))]) rfl ?_
  refine scr_rd hs hP rfl (by first | decide | omega) (by first | decide | omega) ?_
  have bb2 := hs.1 (i + 1)
  have bb3 := hs.1 (i + 2)
  have bb4 := hs.1 (i + 3)
  have bb5 := hs.1 (i + 4)
  have bb6 := hs.1 (i + 5)
  have bb7 := hs.1 (i + 6)
  refine r_peekR hX (tl_131 15 rfl (by decide)) (q6_reader rc.1) (fun va vae vas => ?_)
  refine r_peekR hX (tl_131 16 rfl (by decide)) (q6_reader rc.1) (fun vb vbe vbs => ?_)
  refine r_adl hX hm (fun ad8 => ?_)
  refine r_callV gd hX hP rfl cv_L_43_128 hx (d' := 15) (mc' := 16) (ms' := 406) (as' := [(0, (sv (i + 1))), (0, (sv (i + 2))), (0, (sv (i + 3))), (0, (sv (i + 4))), (0, (sv (i + 5))), (0, (sv (i + 6)))]) (st := []) (by first | decide | omega) (by first | decide | omega) (by first | decide | omega) rfl rfl (Nat.le_of_ble_eq_true rfl) (k_event E S G x (sv (i + 1)) (sv (i + 2)) (sv (i + 3)) (sv (i + 4)) (sv (i + 5)) (sv (i + 6)) hx (by first | decide | omega) (by first | decide | omega) (by first | decide | omega) (by first | decide | omega) (by first | decide | omega) (by first | decide | omega) (by first | decide | omega) (by first | decide | omega) (by first | decide | omega) (by first | decide | omega) (by first | decide | omega) (by first | decide | omega) ci t rc (by have q : va = G 131 (G 128 x 16) 15 := vae; rw [← q]; exact vas) (by have q : vb = G 131 (G 128 x 16) 16 := vbe; rw [← q]; exact vbs)) ?_
  rintro _ S11 G12 ⟨g13, rc9, z1, rfl, z1a, z1b, z1v, ci14⟩
  have hx16 := gr_lab g13 hx (by decide)
  have hm17 := gr_lab g13 hm (by decide)
  have mi15 := mi_gr mi hm ad8 g13 rfl
  have rm10 := relm_gr rm hm ad8 g13 rfl
  refine r_ex hX hP 5 (pc' := 532) (st' := [(0, (i + 1)), (2, (b : Int)), (2, Ad E 1), (0, z1)]) (lo' := [(0, (2, (b : Int))), (1, (2, x)), (2, (2, Ad E 1)), (3, (0, i))]) rfl ?_
  refine scr_rd hs hP rfl (by first | decide | omega) (by first | decide | omega) ?_
  refine r_ex hX hP 4 (pc' := 537) (st' := [(0, (i + 2)), (2, (b : Int)), (0, (sv (i + 1))), (2, Ad E 1), (0, z1)]) (lo' := [(0, (2, (b : Int))), (1, (2, x)), (2, (2, Ad E 1)), (3, (0, i))]) rfl ?_
  refine scr_rd hs hP rfl (by first | decide | omega) (by first | decide | omega) ?_
  refine r_ex hX hP 4 (pc' := 542) (st' := [(0, (i + 3)), (2, (b : Int)), (0, (sv (i + 2))), (0, (sv (i + 1))), (2, Ad E 1), (0, z1)]) (lo' := [(0, (2, (b : Int))), (1, (2, x)), (2, (2, Ad E 1)), (3, (0, i))]) rfl ?_
  refine scr_rd hs hP rfl (by first | decide | omega) (by first | decide | omega) ?_
  refine r_ex hX hP 4 (pc' := 547) (st' := [(0, (i + 4)), (2, (b : Int)), (0, (sv (i + 3))), (0, (sv (i + 2))), (0, (sv (i + 1))), (2, Ad E 1), (0, z1)]) (lo' := [(0, (2, (b : Int))), (1, (2, x)), (2, (2, Ad E 1)), (3, (0, i))]) rfl ?_
  refine scr_rd hs hP rfl (by first | decide | omega) (by first | decide | omega) ?_
  refine r_ex hX hP 4 (pc' := 552) (st' := [(0, (i + 5)), (2, (b : Int)), (0, (sv (i + 4))), (0, (sv (i + 3))), (0, (sv (i + 2))), (0, (sv (i + 1))), (2, Ad E 1), (0, z1)]) (lo' := [(0, (2, (b : Int))), (1, (2, x)), (2, (2, Ad E 1)), (3, (0, i))]) rfl ?_
  refine scr_rd hs hP rfl (by first | decide | omega) (by first | decide | omega) ?_
  refine r_ex hX hP 4 (pc' := 558) (st' := [(0, (i + 6)), (2, (b : Int)), (0, (sv (i + 5))), (0, (sv (i + 4))), (0, (sv (i + 3))), (0, (sv (i + 2))), (0, (sv (i + 1))), (2, Ad E 1), (0, z1)]) (lo' := [(0, (2, (b : Int))), (1, (2, x)), (2, (2, Ad E 1)), (3, (0, i))]) rfl ?_
  refine scr_rd hs hP rfl (by first | decide | omega) (by first | decide | omega) ?_
  have bb19 := hs.1 (i + 1)
  have bb20 := hs.1 (i + 2)
  have bb21 := hs.1 (i + 3)
  have bb22 := hs.1 (i + 4)
  have bb23 := hs.1 (i + 5)
  have bb24 := hs.1 (i + 6)
  refine r_callV gd hX hP rfl cv_L_47_1 hm17 (d' := 40) (mc' := 0) (ms' := 0) (as' := [(0, (sv (i + 1))), (0, (sv (i + 2))), (0, (sv (i + 3))), (0, (sv (i + 4))), (0, (sv (i + 5))), (0, (sv (i + 6)))]) (st := [(0, z1)]) (by first | decide | omega) (by first | decide | omega) (by first | decide | omega) rfl rfl (Nat.le_of_ble_eq_true rfl) (l_event E S11 G12 (sv (i + 1)) (sv (i + 2)) (sv (i + 3)) (sv (i + 4)) (sv (i + 5)) (sv (i + 6)) hm17 (by first | decide | omega) (by first | decide | omega) (by first | decide | omega) (by first | decide | omega) (by first | decide | omega) (by first | decide | omega) (by first | decide | omega) (by first | decide | omega) (by first | decide | omega) (by first | decide | omega) (by first | decide | omega) (by first | decide | omega) mi15 t rm10 (fun i => G 105 (G 131 (G 128 x 16) 3) i) (relc_tape rc)) ?_
  rintro _ _ _ ⟨rfl, ⟨G28, rfl⟩, z18, rfl, z18a, z18b, z18v, rm26, mi27⟩
  refine r_ic_eq hX hP rfl (tgt := 1661) rfl (by first | decide | omega) (by first | decide | omega) (by first | decide | omega) (by first | decide | omega) (fun c29 => ?_) (fun c29 => ?_)
  · skip
    exact kk _ _ _ _ (by first | decide | omega) (by first | decide | omega) hx16 hm17 (ci_hvL ci14 rfl) mi27 ⟨_, (relc_frm ci14 rc9 (frm_hv rfl rfl)), rm26⟩
  · exfalso; omega
def PL7 : Cod := [(567, .aload_n 1, 1), (568, .aload_n 0, 1), (569, .iload_n 3, 1), (570, .iconst 1, 1), (571, .iadd, 1), (572, .iaload, 1), (573, .invokevirtual 48, 3), (576, .pop, 1), (577, .aload_n 2, 1), (578, .aload_n 0, 1), (579, .iload_n 3, 1), (580, .iconst 1, 1), (581, .iadd, 1), (582, .iaload, 1), (583, .invokevirtual 52, 3), (586, .pop, 1), (587, .goto 1074, 3)]
theorem hPL7 : Dec code PL7 := dec_of (by decide +kernel)
set_option maxRecDepth 100000 in
set_option maxHeartbeats 4000000 in
theorem law_7 {E : En} {nm : String} {as : List Vl} {mc ms : Nat} {Y : Option Vl → Sg → Gh → Prop} {X : Xp} {b L : Nat} {sv : Int → Int} (hX : Cl E (mL nm) as 840 mc ms Y X) (hs : Scr X b L sv) {cs ss : Nat} {S : Sg} {G : Gh} {x i : Int} (i0 : 0 ≤ i) (i1 : i + 8 ≤ L) (i2 : i ≤ 4096) (hx : S x = 128) (hm : S (Ad E 1) = 1) (ci : CI E S G) (mi : MI E G) (rel : ∃ t : Tz, RelC S G x t ∧ RelM E G t) (hc : cs + 704 ≤ mc) (hq : ss + 6964 ≤ ms) (kk : ∀ (cs' ss' : Nat) (S' : Sg) (G' : Gh), cs' ≤ cs + 704 → ss' ≤ ss + 6964 → S' x = 128 → S' (Ad E 1) = 1 → CI E S' G' → MI E G' → (∃ t : Tz, RelC S' G' x t ∧ RelM E G' t) → X cs' ss' 1661 [] [(0, (2, (b : Int))), (1, (2, x)), (2, (2, Ad E 1)), (3, (0, i))] S' G') : X cs ss 567 [] [(0, (2, (b : Int))), (1, (2, x)), (2, (2, Ad E 1)), (3, (0, i))] S G := by
  have hP := hPL7
  obtain ⟨t, rc, rm⟩ := rel
  refine r_ex hX hP 5 (pc' := 572) (st' := [(0, (i + 1)), (2, (b : Int)), (2, x)]) (lo' := [(0, (2, (b : Int))), (1, (2, x)), (2, (2, Ad E 1)), (3, (0, i))]) rfl ?_
  refine scr_rd hs hP rfl (by first | decide | omega) (by first | decide | omega) ?_
  have bb2 := hs.1 (i + 1)
  refine r_callV gd hX hP rfl cv_L_48_128 hx (d' := 0) (mc' := 0) (ms' := 0) (as' := [(0, (sv (i + 1)))]) (st := []) (by first | decide | omega) (by first | decide | omega) (by first | decide | omega) rfl rfl (Nat.le_of_ble_eq_true rfl) (k_fault E S G x (sv (i + 1)) hx (by first | decide | omega) (by first | decide | omega) ci t rc) ?_
  rintro _ _ _ ⟨rfl, rfl, rc3, z1, rfl, z1a, z1b, z1v⟩
  refine r_ex hX hP 6 (pc' := 582) (st' := [(0, (i + 1)), (2, (b : Int)), (2, Ad E 1)]) (lo' := [(0, (2, (b : Int))), (1, (2, x)), (2, (2, Ad E 1)), (3, (0, i))]) rfl ?_
  refine scr_rd hs hP rfl (by first | decide | omega) (by first | decide | omega) ?_
  have bb6 := hs.1 (i + 1)
  refine r_callV gd hX hP rfl cv_L_52_1 hm (d' := 0) (mc' := 0) (ms' := 0) (as' := [(0, (sv (i + 1)))]) (st := []) (by first | decide | omega) (by first | decide | omega) (by first | decide | omega) rfl rfl (Nat.le_of_ble_eq_true rfl) (l_fault E S G (sv (i + 1)) hm (by first | decide | omega) (by first | decide | omega) t rm) ?_
  rintro _ _ _ ⟨rfl, ⟨G10, rfl⟩, z5, rfl, z5a, z5b, z5v, rm8⟩
  refine r_ex hX hP 2 (pc' := 1661) (st' := []) (lo' := [(0, (2, (b : Int))), (1, (2, x)), (2, (2, Ad E 1)), (3, (0, i))]) rfl ?_
  exact kk _ _ _ _ (by first | decide | omega) (by first | decide | omega) hx hm (ci_hvL ci rfl) (mi_keep mi rfl rfl rfl rfl rfl rfl (fun _ => rfl) (fun _ => rfl) (fun _ => rfl) (fun _ => rfl) (fun _ => rfl) (fun _ => rfl) (fun _ => rfl) (fun _ => rfl) (fun _ => rfl) (fun _ => rfl) (fun _ => rfl) (fun _ => rfl) (fun _ => rfl)) ⟨_, (relc_frm ci rc3 (frm_hv rfl rfl)), rm8⟩
def PL8 : Cod := [(590, .aload_n 1, 1), (591, .aload_n 0, 1), (592, .iload_n 3, 1), (593, .iconst 1, 1), (594, .iadd, 1), (595, .iaload, 1), (596, .invokevirtual 53, 3), (599, .pop, 1), (600, .aload_n 2, 1), (601, .aload_n 0, 1), (602, .iload_n 3, 1), (603, .iconst 1, 1), (604, .iadd, 1), (605, .iaload, 1), (606, .invokevirtual 56, 3), (609, .pop, 1), (610, .goto 1051, 3)]
theorem hPL8 : Dec code PL8 := dec_of (by decide +kernel)
set_option maxRecDepth 100000 in
set_option maxHeartbeats 4000000 in
theorem law_8 {E : En} {nm : String} {as : List Vl} {mc ms : Nat} {Y : Option Vl → Sg → Gh → Prop} {X : Xp} {b L : Nat} {sv : Int → Int} (hX : Cl E (mL nm) as 840 mc ms Y X) (hs : Scr X b L sv) {cs ss : Nat} {S : Sg} {G : Gh} {x i : Int} (i0 : 0 ≤ i) (i1 : i + 8 ≤ L) (i2 : i ≤ 4096) (hx : S x = 128) (hm : S (Ad E 1) = 1) (ci : CI E S G) (mi : MI E G) (rel : ∃ t : Tz, RelC S G x t ∧ RelM E G t) (hc : cs + 704 ≤ mc) (hq : ss + 6964 ≤ ms) (kk : ∀ (cs' ss' : Nat) (S' : Sg) (G' : Gh), cs' ≤ cs + 704 → ss' ≤ ss + 6964 → S' x = 128 → S' (Ad E 1) = 1 → CI E S' G' → MI E G' → (∃ t : Tz, RelC S' G' x t ∧ RelM E G' t) → X cs' ss' 1661 [] [(0, (2, (b : Int))), (1, (2, x)), (2, (2, Ad E 1)), (3, (0, i))] S' G') : X cs ss 590 [] [(0, (2, (b : Int))), (1, (2, x)), (2, (2, Ad E 1)), (3, (0, i))] S G := by
  have hP := hPL8
  obtain ⟨t, rc, rm⟩ := rel
  refine r_ex hX hP 5 (pc' := 595) (st' := [(0, (i + 1)), (2, (b : Int)), (2, x)]) (lo' := [(0, (2, (b : Int))), (1, (2, x)), (2, (2, Ad E 1)), (3, (0, i))]) rfl ?_
  refine scr_rd hs hP rfl (by first | decide | omega) (by first | decide | omega) ?_
  have bb2 := hs.1 (i + 1)
  refine r_callV gd hX hP rfl cv_L_53_128 hx (d' := 3) (mc' := 0) (ms' := 0) (as' := [(0, (sv (i + 1)))]) (st := []) (by first | decide | omega) (by first | decide | omega) (by first | decide | omega) rfl rfl (Nat.le_of_ble_eq_true rfl) (k_choices E S G x (sv (i + 1)) hx (by first | decide | omega) (by first | decide | omega) ci t rc) ?_
  rintro _ _ _ ⟨rfl, ⟨G5, rfl⟩, rc3, z1, rfl, z1a, z1b, z1v⟩
  have ci6 : CI E S (hw [(128, 0)] G G5) := ci_hw ci rfl
  have mi7 : MI E (hw [(128, 0)] G G5) := mi_hwL mi rfl
  have rm4 : RelM E (hw [(128, 0)] G G5) t := relm_hwL rm rfl
  refine r_ex hX hP 6 (pc' := 605) (st' := [(0, (i + 1)), (2, (b : Int)), (2, Ad E 1)]) (lo' := [(0, (2, (b : Int))), (1, (2, x)), (2, (2, Ad E 1)), (3, (0, i))]) rfl ?_
  refine scr_rd hs hP rfl (by first | decide | omega) (by first | decide | omega) ?_
  have bb9 := hs.1 (i + 1)
  refine r_callV gd hX hP rfl cv_L_56_1 hm (d' := 2) (mc' := 0) (ms' := 0) (as' := [(0, (sv (i + 1)))]) (st := []) (by first | decide | omega) (by first | decide | omega) (by first | decide | omega) rfl rfl (Nat.le_of_ble_eq_true rfl) (l_choices E S (hw [(128, 0)] G G5) (sv (i + 1)) hm (by first | decide | omega) (by first | decide | omega) t rm4) ?_
  rintro _ _ _ ⟨rfl, ⟨G13, rfl⟩, z8, rfl, z8a, z8b, z8v, rm11⟩
  refine r_ex hX hP 2 (pc' := 1661) (st' := []) (lo' := [(0, (2, (b : Int))), (1, (2, x)), (2, (2, Ad E 1)), (3, (0, i))]) rfl ?_
  exact kk _ _ _ _ (by first | decide | omega) (by first | decide | omega) hx hm (ci_hvL ci6 rfl) (mi_keep mi7 rfl rfl rfl rfl rfl rfl (fun _ => rfl) (fun _ => rfl) (fun _ => rfl) (fun _ => rfl) (fun _ => rfl) (fun _ => rfl) (fun _ => rfl) (fun _ => rfl) (fun _ => rfl) (fun _ => rfl) (fun _ => rfl) (fun _ => rfl) (fun _ => rfl)) ⟨_, (relc_frm ci6 rc3 (frm_hv rfl rfl)), rm11⟩
def PL9 : Cod := [(613, .aload_n 1, 1), (614, .aload_n 0, 1), (615, .iload_n 3, 1), (616, .iconst 1, 1), (617, .iadd, 1), (618, .iaload, 1), (619, .aload_n 0, 1), (620, .iload_n 3, 1), (621, .iconst 2, 1), (622, .iadd, 1), (623, .iaload, 1), (624, .aload_n 0, 1), (625, .iload_n 3, 1), (626, .iconst 3, 1), (627, .iadd, 1), (628, .iaload, 1), (629, .aload_n 0, 1), (630, .iload_n 3, 1), (631, .iconst 4, 1), (632, .iadd, 1), (633, .iaload, 1), (634, .aload_n 0, 1), (635, .iload_n 3, 1), (636, .iconst 5, 1), (637, .iadd, 1), (638, .iaload, 1), (639, .invokevirtual 57, 3), (642, .pop, 1), (643, .aload_n 2, 1), (644, .aload_n 0, 1), (645, .iload_n 3, 1), (646, .iconst 1, 1), (647, .iadd, 1), (648, .iaload, 1), (649, .aload_n 0, 1), (650, .iload_n 3, 1), (651, .iconst 2, 1), (652, .iadd, 1), (653, .iaload, 1), (654, .aload_n 0, 1), (655, .iload_n 3, 1), (656, .iconst 3, 1), (657, .iadd, 1), (658, .iaload, 1), (659, .aload_n 0, 1), (660, .iload_n 3, 1), (661, .iconst 4, 1), (662, .iadd, 1), (663, .iaload, 1), (664, .aload_n 0, 1), (665, .iload_n 3, 1), (666, .iconst 5, 1), (667, .iadd, 1), (668, .iaload, 1), (669, .invokevirtual 60, 3), (672, .pop, 1), (673, .goto 988, 3)]
theorem hPL9 : Dec code PL9 := dec_of (by decide +kernel)
set_option maxRecDepth 100000 in
set_option maxHeartbeats 4000000 in
theorem law_9 {E : En} {nm : String} {as : List Vl} {mc ms : Nat} {Y : Option Vl → Sg → Gh → Prop} {X : Xp} {b L : Nat} {sv : Int → Int} (hX : Cl E (mL nm) as 840 mc ms Y X) (hs : Scr X b L sv) {cs ss : Nat} {S : Sg} {G : Gh} {x i : Int} (i0 : 0 ≤ i) (i1 : i + 8 ≤ L) (i2 : i ≤ 4096) (hx : S x = 128) (hm : S (Ad E 1) = 1) (ci : CI E S G) (mi : MI E G) (rel : ∃ t : Tz, RelC S G x t ∧ RelM E G t) (hc : cs + 704 ≤ mc) (hq : ss + 6964 ≤ ms) (kk : ∀ (cs' ss' : Nat) (S' : Sg) (G' : Gh), cs' ≤ cs + 704 → ss' ≤ ss + 6964 → S' x = 128 → S' (Ad E 1) = 1 → CI E S' G' → MI E G' → (∃ t : Tz, RelC S' G' x t ∧ RelM E G' t) → X cs' ss' 1661 [] [(0, (2, (b : Int))), (1, (2, x)), (2, (2, Ad E 1)), (3, (0, i))] S' G') : X cs ss 613 [] [(0, (2, (b : Int))), (1, (2, x)), (2, (2, Ad E 1)), (3, (0, i))] S G := by
  have hP := hPL9
  obtain ⟨t, rc, rm⟩ := rel
  refine r_ex hX hP 5 (pc' := 618) (st' := [(0, (i + 1)), (2, (b : Int)), (2, x)]) (lo' := [(0, (2, (b : Int))), (1, (2, x)), (2, (2, Ad E 1)), (3, (0, i))]) rfl ?_
  refine scr_rd hs hP rfl (by first | decide | omega) (by first | decide | omega) ?_
  refine r_ex hX hP 4 (pc' := 623) (st' := [(0, (i + 2)), (2, (b : Int)), (0, (sv (i + 1))), (2, x)]) (lo' := [(0, (2, (b : Int))), (1, (2, x)), (2, (2, Ad E 1)), (3, (0, i))]) rfl ?_
  refine scr_rd hs hP rfl (by first | decide | omega) (by first | decide | omega) ?_
  refine r_ex hX hP 4 (pc' := 628) (st' := [(0, (i + 3)), (2, (b : Int)), (0, (sv (i + 2))), (0, (sv (i + 1))), (2, x)]) (lo' := [(0, (2, (b : Int))), (1, (2, x)), (2, (2, Ad E 1)), (3, (0, i))]) rfl ?_
  refine scr_rd hs hP rfl (by first | decide | omega) (by first | decide | omega) ?_
  refine r_ex hX hP 4 (pc' := 633) (st' := [(0, (i + 4)), (2, (b : Int)), (0, (sv (i + 3))), (0, (sv (i + 2))), (0, (sv (i + 1))), (2, x)]) (lo' := [(0, (2, (b : Int))), (1, (2, x)), (2, (2, Ad E 1)), (3, (0, i))]) rfl ?_
  refine scr_rd hs hP rfl (by first | decide | omega) (by first | decide | omega) ?_
  refine r_ex hX hP 4 (pc' := 638) (st' := [(0, (i + 5)), (2, (b : Int)), (0, (sv (i + 4))), (0, (sv (i + 3))), (0, (sv (i + 2))), (0, (sv (i + 1))), (2, x)]) (lo' := [(0, (2, (b : Int))), (1, (2, x)), (2, (2, Ad E 1)), (3, (0, i))]) rfl ?_
  refine scr_rd hs hP rfl (by first | decide | omega) (by first | decide | omega) ?_
  have bb2 := hs.1 (i + 1)
  have bb3 := hs.1 (i + 2)
  have bb4 := hs.1 (i + 3)
  have bb5 := hs.1 (i + 4)
  have bb6 := hs.1 (i + 5)
  refine r_adl hX hm (fun ad7 => ?_)
  refine r_callV gd hX hP rfl cv_L_57_128 hx (d' := 15) (mc' := 2) (ms' := 79) (as' := [(0, (sv (i + 1))), (0, (sv (i + 2))), (0, (sv (i + 3))), (0, (sv (i + 4))), (0, (sv (i + 5)))]) (st := []) (by first | decide | omega) (by first | decide | omega) (by first | decide | omega) rfl rfl (Nat.le_of_ble_eq_true rfl) (k_choose E S G x (sv (i + 1)) (sv (i + 2)) (sv (i + 3)) (sv (i + 4)) (sv (i + 5)) hx (by first | decide | omega) (by first | decide | omega) (by first | decide | omega) (by first | decide | omega) (by first | decide | omega) (by first | decide | omega) (by first | decide | omega) (by first | decide | omega) (by first | decide | omega) (by first | decide | omega) ci t rc) ?_
  rintro _ S10 G11 ⟨g12, rc8, z1, rfl, z1a, z1b, z1v, ci13⟩
  have hx15 := gr_lab g12 hx (by decide)
  have hm16 := gr_lab g12 hm (by decide)
  have mi14 := mi_gr mi hm ad7 g12 rfl
  have rm9 := relm_gr rm hm ad7 g12 rfl
  refine r_ex hX hP 6 (pc' := 648) (st' := [(0, (i + 1)), (2, (b : Int)), (2, Ad E 1)]) (lo' := [(0, (2, (b : Int))), (1, (2, x)), (2, (2, Ad E 1)), (3, (0, i))]) rfl ?_
  refine scr_rd hs hP rfl (by first | decide | omega) (by first | decide | omega) ?_
  refine r_ex hX hP 4 (pc' := 653) (st' := [(0, (i + 2)), (2, (b : Int)), (0, (sv (i + 1))), (2, Ad E 1)]) (lo' := [(0, (2, (b : Int))), (1, (2, x)), (2, (2, Ad E 1)), (3, (0, i))]) rfl ?_
  refine scr_rd hs hP rfl (by first | decide | omega) (by first | decide | omega) ?_
  refine r_ex hX hP 4 (pc' := 658) (st' := [(0, (i + 3)), (2, (b : Int)), (0, (sv (i + 2))), (0, (sv (i + 1))), (2, Ad E 1)]) (lo' := [(0, (2, (b : Int))), (1, (2, x)), (2, (2, Ad E 1)), (3, (0, i))]) rfl ?_
  refine scr_rd hs hP rfl (by first | decide | omega) (by first | decide | omega) ?_
  refine r_ex hX hP 4 (pc' := 663) (st' := [(0, (i + 4)), (2, (b : Int)), (0, (sv (i + 3))), (0, (sv (i + 2))), (0, (sv (i + 1))), (2, Ad E 1)]) (lo' := [(0, (2, (b : Int))), (1, (2, x)), (2, (2, Ad E 1)), (3, (0, i))]) rfl ?_
  refine scr_rd hs hP rfl (by first | decide | omega) (by first | decide | omega) ?_
  refine r_ex hX hP 4 (pc' := 668) (st' := [(0, (i + 5)), (2, (b : Int)), (0, (sv (i + 4))), (0, (sv (i + 3))), (0, (sv (i + 2))), (0, (sv (i + 1))), (2, Ad E 1)]) (lo' := [(0, (2, (b : Int))), (1, (2, x)), (2, (2, Ad E 1)), (3, (0, i))]) rfl ?_
  refine scr_rd hs hP rfl (by first | decide | omega) (by first | decide | omega) ?_
  have bb18 := hs.1 (i + 1)
  have bb19 := hs.1 (i + 2)
  have bb20 := hs.1 (i + 3)
  have bb21 := hs.1 (i + 4)
  have bb22 := hs.1 (i + 5)
  refine r_callV gd hX hP rfl cv_L_60_1 hm16 (d' := 2) (mc' := 0) (ms' := 0) (as' := [(0, (sv (i + 1))), (0, (sv (i + 2))), (0, (sv (i + 3))), (0, (sv (i + 4))), (0, (sv (i + 5)))]) (st := []) (by first | decide | omega) (by first | decide | omega) (by first | decide | omega) rfl rfl (Nat.le_of_ble_eq_true rfl) (l_choose E S10 G11 (sv (i + 1)) (sv (i + 2)) (sv (i + 3)) (sv (i + 4)) (sv (i + 5)) hm16 (by first | decide | omega) (by first | decide | omega) (by first | decide | omega) (by first | decide | omega) (by first | decide | omega) (by first | decide | omega) (by first | decide | omega) (by first | decide | omega) (by first | decide | omega) (by first | decide | omega) mi14 t rm9) ?_
  rintro _ _ _ ⟨rfl, ⟨G26, rfl⟩, z17, rfl, z17a, z17b, z17v, rm24, mi25⟩
  refine r_ex hX hP 2 (pc' := 1661) (st' := []) (lo' := [(0, (2, (b : Int))), (1, (2, x)), (2, (2, Ad E 1)), (3, (0, i))]) rfl ?_
  exact kk _ _ _ _ (by first | decide | omega) (by first | decide | omega) hx15 hm16 (ci_hvL ci13 rfl) mi25 ⟨_, (relc_frm ci13 rc8 (frm_hv rfl rfl)), rm24⟩
def PL10 : Cod := [(676, .aload_n 1, 1), (677, .aload_n 0, 1), (678, .iload_n 3, 1), (679, .iconst 1, 1), (680, .iadd, 1), (681, .iaload, 1), (682, .aload_n 0, 1), (683, .iload_n 3, 1), (684, .iconst 2, 1), (685, .iadd, 1), (686, .iaload, 1), (687, .aload_n 0, 1), (688, .iload_n 3, 1), (689, .iconst 3, 1), (690, .iadd, 1), (691, .iaload, 1), (692, .invokevirtual 61, 3), (695, .pop, 1), (696, .aload_n 2, 1), (697, .aload_n 0, 1), (698, .iload_n 3, 1), (699, .iconst 1, 1), (700, .iadd, 1), (701, .iaload, 1), (702, .aload_n 0, 1), (703, .iload_n 3, 1), (704, .iconst 2, 1), (705, .iadd, 1), (706, .iaload, 1), (707, .aload_n 0, 1), (708, .iload_n 3, 1), (709, .iconst 3, 1), (710, .iadd, 1), (711, .iaload, 1), (712, .invokevirtual 65, 3), (715, .pop, 1), (716, .goto 945, 3)]
theorem hPL10 : Dec code PL10 := dec_of (by decide +kernel)
set_option maxRecDepth 100000 in
set_option maxHeartbeats 4000000 in
theorem law_10 {E : En} {nm : String} {as : List Vl} {mc ms : Nat} {Y : Option Vl → Sg → Gh → Prop} {X : Xp} {b L : Nat} {sv : Int → Int} (hX : Cl E (mL nm) as 840 mc ms Y X) (hs : Scr X b L sv) {cs ss : Nat} {S : Sg} {G : Gh} {x i : Int} (i0 : 0 ≤ i) (i1 : i + 8 ≤ L) (i2 : i ≤ 4096) (hx : S x = 128) (hm : S (Ad E 1) = 1) (ci : CI E S G) (mi : MI E G) (rel : ∃ t : Tz, RelC S G x t ∧ RelM E G t) (hc : cs + 704 ≤ mc) (hq : ss + 6964 ≤ ms) (kk : ∀ (cs' ss' : Nat) (S' : Sg) (G' : Gh), cs' ≤ cs + 704 → ss' ≤ ss + 6964 → S' x = 128 → S' (Ad E 1) = 1 → CI E S' G' → MI E G' → (∃ t : Tz, RelC S' G' x t ∧ RelM E G' t) → X cs' ss' 1661 [] [(0, (2, (b : Int))), (1, (2, x)), (2, (2, Ad E 1)), (3, (0, i))] S' G') : X cs ss 676 [] [(0, (2, (b : Int))), (1, (2, x)), (2, (2, Ad E 1)), (3, (0, i))] S G := by
  have hP := hPL10
  obtain ⟨t, rc, rm⟩ := rel
  refine r_ex hX hP 5 (pc' := 681) (st' := [(0, (i + 1)), (2, (b : Int)), (2, x)]) (lo' := [(0, (2, (b : Int))), (1, (2, x)), (2, (2, Ad E 1)), (3, (0, i))]) rfl ?_
  refine scr_rd hs hP rfl (by first | decide | omega) (by first | decide | omega) ?_
  refine r_ex hX hP 4 (pc' := 686) (st' := [(0, (i + 2)), (2, (b : Int)), (0, (sv (i + 1))), (2, x)]) (lo' := [(0, (2, (b : Int))), (1, (2, x)), (2, (2, Ad E 1)), (3, (0, i))]) rfl ?_
  refine scr_rd hs hP rfl (by first | decide | omega) (by first | decide | omega) ?_
  refine r_ex hX hP 4 (pc' := 691) (st' := [(0, (i + 3)), (2, (b : Int)), (0, (sv (i + 2))), (0, (sv (i + 1))), (2, x)]) (lo' := [(0, (2, (b : Int))), (1, (2, x)), (2, (2, Ad E 1)), (3, (0, i))]) rfl ?_
  refine scr_rd hs hP rfl (by first | decide | omega) (by first | decide | omega) ?_
  have bb2 := hs.1 (i + 1)
  have bb3 := hs.1 (i + 2)
  have bb4 := hs.1 (i + 3)
  refine r_callV gd hX hP rfl cv_L_61_128 hx (d' := 4) (mc' := 0) (ms' := 0) (as' := [(0, (sv (i + 1))), (0, (sv (i + 2))), (0, (sv (i + 3)))]) (st := []) (by first | decide | omega) (by first | decide | omega) (by first | decide | omega) rfl rfl (Nat.le_of_ble_eq_true rfl) (k_strike E S G x (sv (i + 1)) (sv (i + 2)) (sv (i + 3)) hx (by first | decide | omega) (by first | decide | omega) (by first | decide | omega) (by first | decide | omega) (by first | decide | omega) (by first | decide | omega) ci t rc) ?_
  rintro _ _ _ ⟨rfl, ⟨G7, rfl⟩, rc5, z1, rfl, z1a, z1b, z1v⟩
  have ci8 : CI E S (hw [(128, 0), (128, 1), (129, 1), (137, 1), (138, 1), (140, 1)] G G7) := ci_hw ci rfl
  have mi9 : MI E (hw [(128, 0), (128, 1), (129, 1), (137, 1), (138, 1), (140, 1)] G G7) := mi_hwL mi rfl
  have rm6 : RelM E (hw [(128, 0), (128, 1), (129, 1), (137, 1), (138, 1), (140, 1)] G G7) t := relm_hwL rm rfl
  refine r_ex hX hP 6 (pc' := 701) (st' := [(0, (i + 1)), (2, (b : Int)), (2, Ad E 1)]) (lo' := [(0, (2, (b : Int))), (1, (2, x)), (2, (2, Ad E 1)), (3, (0, i))]) rfl ?_
  refine scr_rd hs hP rfl (by first | decide | omega) (by first | decide | omega) ?_
  refine r_ex hX hP 4 (pc' := 706) (st' := [(0, (i + 2)), (2, (b : Int)), (0, (sv (i + 1))), (2, Ad E 1)]) (lo' := [(0, (2, (b : Int))), (1, (2, x)), (2, (2, Ad E 1)), (3, (0, i))]) rfl ?_
  refine scr_rd hs hP rfl (by first | decide | omega) (by first | decide | omega) ?_
  refine r_ex hX hP 4 (pc' := 711) (st' := [(0, (i + 3)), (2, (b : Int)), (0, (sv (i + 2))), (0, (sv (i + 1))), (2, Ad E 1)]) (lo' := [(0, (2, (b : Int))), (1, (2, x)), (2, (2, Ad E 1)), (3, (0, i))]) rfl ?_
  refine scr_rd hs hP rfl (by first | decide | omega) (by first | decide | omega) ?_
  have bb11 := hs.1 (i + 1)
  have bb12 := hs.1 (i + 2)
  have bb13 := hs.1 (i + 3)
  refine r_callV gd hX hP rfl cv_L_65_1 hm (d' := 2) (mc' := 0) (ms' := 0) (as' := [(0, (sv (i + 1))), (0, (sv (i + 2))), (0, (sv (i + 3)))]) (st := []) (by first | decide | omega) (by first | decide | omega) (by first | decide | omega) rfl rfl (Nat.le_of_ble_eq_true rfl) (l_strike E S (hw [(128, 0), (128, 1), (129, 1), (137, 1), (138, 1), (140, 1)] G G7) (sv (i + 1)) (sv (i + 2)) (sv (i + 3)) hm (by first | decide | omega) (by first | decide | omega) (by first | decide | omega) (by first | decide | omega) (by first | decide | omega) (by first | decide | omega) t rm6) ?_
  rintro _ _ _ ⟨rfl, ⟨G17, rfl⟩, z10, rfl, z10a, z10b, z10v, rm15⟩
  refine r_ex hX hP 2 (pc' := 1661) (st' := []) (lo' := [(0, (2, (b : Int))), (1, (2, x)), (2, (2, Ad E 1)), (3, (0, i))]) rfl ?_
  exact kk _ _ _ _ (by first | decide | omega) (by first | decide | omega) hx hm (ci_hvL ci8 rfl) (mi_keep mi9 rfl rfl rfl rfl rfl rfl (fun _ => rfl) (fun _ => rfl) (fun _ => rfl) (fun _ => rfl) (fun _ => rfl) (fun _ => rfl) (fun _ => rfl) (fun _ => rfl) (fun _ => rfl) (fun _ => rfl) (fun _ => rfl) (fun _ => rfl) (fun _ => rfl)) ⟨_, (relc_frm ci8 rc5 (frm_hv rfl rfl)), rm15⟩
def PL11 : Cod := [(719, .aload_n 1, 1), (720, .aload_n 0, 1), (721, .iload_n 3, 1), (722, .iconst 1, 1), (723, .iadd, 1), (724, .iaload, 1), (725, .aload_n 0, 1), (726, .iload_n 3, 1), (727, .iconst 2, 1), (728, .iadd, 1), (729, .iaload, 1), (730, .aload_n 0, 1), (731, .iload_n 3, 1), (732, .iconst 3, 1), (733, .iadd, 1), (734, .iaload, 1), (735, .invokevirtual 66, 3), (738, .pop, 1), (739, .aload_n 2, 1), (740, .aload_n 0, 1), (741, .iload_n 3, 1), (742, .iconst 1, 1), (743, .iadd, 1), (744, .iaload, 1), (745, .aload_n 0, 1), (746, .iload_n 3, 1), (747, .iconst 2, 1), (748, .iadd, 1), (749, .iaload, 1), (750, .aload_n 0, 1), (751, .iload_n 3, 1), (752, .iconst 3, 1), (753, .iadd, 1), (754, .iaload, 1), (755, .invokevirtual 69, 3), (758, .pop, 1), (759, .goto 902, 3)]
theorem hPL11 : Dec code PL11 := dec_of (by decide +kernel)
set_option maxRecDepth 100000 in
set_option maxHeartbeats 4000000 in
theorem law_11 {E : En} {nm : String} {as : List Vl} {mc ms : Nat} {Y : Option Vl → Sg → Gh → Prop} {X : Xp} {b L : Nat} {sv : Int → Int} (hX : Cl E (mL nm) as 840 mc ms Y X) (hs : Scr X b L sv) {cs ss : Nat} {S : Sg} {G : Gh} {x i : Int} (i0 : 0 ≤ i) (i1 : i + 8 ≤ L) (i2 : i ≤ 4096) (hx : S x = 128) (hm : S (Ad E 1) = 1) (ci : CI E S G) (mi : MI E G) (rel : ∃ t : Tz, RelC S G x t ∧ RelM E G t) (hc : cs + 704 ≤ mc) (hq : ss + 6964 ≤ ms) (kk : ∀ (cs' ss' : Nat) (S' : Sg) (G' : Gh), cs' ≤ cs + 704 → ss' ≤ ss + 6964 → S' x = 128 → S' (Ad E 1) = 1 → CI E S' G' → MI E G' → (∃ t : Tz, RelC S' G' x t ∧ RelM E G' t) → X cs' ss' 1661 [] [(0, (2, (b : Int))), (1, (2, x)), (2, (2, Ad E 1)), (3, (0, i))] S' G') : X cs ss 719 [] [(0, (2, (b : Int))), (1, (2, x)), (2, (2, Ad E 1)), (3, (0, i))] S G := by
  have hP := hPL11
  obtain ⟨t, rc, rm⟩ := rel
  refine r_ex hX hP 5 (pc' := 724) (st' := [(0, (i + 1)), (2, (b : Int)), (2, x)]) (lo' := [(0, (2, (b : Int))), (1, (2, x)), (2, (2, Ad E 1)), (3, (0, i))]) rfl ?_
  refine scr_rd hs hP rfl (by first | decide | omega) (by first | decide | omega) ?_
  refine r_ex hX hP 4 (pc' := 729) (st' := [(0, (i + 2)), (2, (b : Int)), (0, (sv (i + 1))), (2, x)]) (lo' := [(0, (2, (b : Int))), (1, (2, x)), (2, (2, Ad E 1)), (3, (0, i))]) rfl ?_
  refine scr_rd hs hP rfl (by first | decide | omega) (by first | decide | omega) ?_
  refine r_ex hX hP 4 (pc' := 734) (st' := [(0, (i + 3)), (2, (b : Int)), (0, (sv (i + 2))), (0, (sv (i + 1))), (2, x)]) (lo' := [(0, (2, (b : Int))), (1, (2, x)), (2, (2, Ad E 1)), (3, (0, i))]) rfl ?_
  refine scr_rd hs hP rfl (by first | decide | omega) (by first | decide | omega) ?_
  have bb2 := hs.1 (i + 1)
  have bb3 := hs.1 (i + 2)
  have bb4 := hs.1 (i + 3)
  refine r_callV gd hX hP rfl cv_L_66_128 hx (d' := 7) (mc' := 0) (ms' := 0) (as' := [(0, (sv (i + 1))), (0, (sv (i + 2))), (0, (sv (i + 3)))]) (st := []) (by first | decide | omega) (by first | decide | omega) (by first | decide | omega) rfl rfl (Nat.le_of_ble_eq_true rfl) (c_X11_own E S G x (sv (i + 1)) (sv (i + 2)) (sv (i + 3)) hx (by first | decide | omega) (by first | decide | omega) (by first | decide | omega) (by first | decide | omega) (by first | decide | omega) (by first | decide | omega) ci) ?_
  rintro _ _ _ ⟨rfl, ⟨G5, rfl⟩, z1, rfl, z1a, z1b⟩
  have ci6 : CI E S (hw [(93, -1), (95, -1), (96, -1), (97, -1), (115, -1), (116, -1), (118, -1), (119, -1), (125, -1), (126, -1), (127, -1), (128, 0), (129, 1), (129, 2), (129, 15), (129, 16)] G G5) := ci_hw ci rfl
  have mi7 : MI E (hw [(93, -1), (95, -1), (96, -1), (97, -1), (115, -1), (116, -1), (118, -1), (119, -1), (125, -1), (126, -1), (127, -1), (128, 0), (129, 1), (129, 2), (129, 15), (129, 16)] G G5) := mi_hwL mi rfl
  have rc8 : RelC S (hw [(93, -1), (95, -1), (96, -1), (97, -1), (115, -1), (116, -1), (118, -1), (119, -1), (125, -1), (126, -1), (127, -1), (128, 0), (129, 1), (129, 2), (129, 15), (129, 16)] G G5) x t := relc_frm ci rc (frm_hw rfl)
  have rm9 : RelM E (hw [(93, -1), (95, -1), (96, -1), (97, -1), (115, -1), (116, -1), (118, -1), (119, -1), (125, -1), (126, -1), (127, -1), (128, 0), (129, 1), (129, 2), (129, 15), (129, 16)] G G5) t := relm_hwL rm rfl
  refine r_ex hX hP 6 (pc' := 744) (st' := [(0, (i + 1)), (2, (b : Int)), (2, Ad E 1)]) (lo' := [(0, (2, (b : Int))), (1, (2, x)), (2, (2, Ad E 1)), (3, (0, i))]) rfl ?_
  refine scr_rd hs hP rfl (by first | decide | omega) (by first | decide | omega) ?_
  refine r_ex hX hP 4 (pc' := 749) (st' := [(0, (i + 2)), (2, (b : Int)), (0, (sv (i + 1))), (2, Ad E 1)]) (lo' := [(0, (2, (b : Int))), (1, (2, x)), (2, (2, Ad E 1)), (3, (0, i))]) rfl ?_
  refine scr_rd hs hP rfl (by first | decide | omega) (by first | decide | omega) ?_
  refine r_ex hX hP 4 (pc' := 754) (st' := [(0, (i + 3)), (2, (b : Int)), (0, (sv (i + 2))), (0, (sv (i + 1))), (2, Ad E 1)]) (lo' := [(0, (2, (b : Int))), (1, (2, x)), (2, (2, Ad E 1)), (3, (0, i))]) rfl ?_
  refine scr_rd hs hP rfl (by first | decide | omega) (by first | decide | omega) ?_
  have bb11 := hs.1 (i + 1)
  have bb12 := hs.1 (i + 2)
  have bb13 := hs.1 (i + 3)
  refine r_callV gd hX hP rfl cv_L_69_1 hm (d' := 41) (mc' := 0) (ms' := 0) (as' := [(0, (sv (i + 1))), (0, (sv (i + 2))), (0, (sv (i + 3)))]) (st := []) (by first | decide | omega) (by first | decide | omega) (by first | decide | omega) rfl rfl (Nat.le_of_ble_eq_true rfl) (c_X12_own E S (hw [(93, -1), (95, -1), (96, -1), (97, -1), (115, -1), (116, -1), (118, -1), (119, -1), (125, -1), (126, -1), (127, -1), (128, 0), (129, 1), (129, 2), (129, 15), (129, 16)] G G5) (sv (i + 1)) (sv (i + 2)) (sv (i + 3)) hm (by first | decide | omega) (by first | decide | omega) (by first | decide | omega) (by first | decide | omega) (by first | decide | omega) (by first | decide | omega) mi7) ?_
  rintro _ _ _ ⟨rfl, ⟨G14, rfl⟩, z10, rfl, z10a, z10b⟩
  refine r_ex hX hP 2 (pc' := 1661) (st' := []) (lo' := [(0, (2, (b : Int))), (1, (2, x)), (2, (2, Ad E 1)), (3, (0, i))]) rfl ?_
  exact kk _ _ _ _ (by first | decide | omega) (by first | decide | omega) hx hm (ci_hvL ci6 rfl) (mi_keep mi7 rfl rfl rfl rfl rfl rfl (fun _ => rfl) (fun _ => rfl) (fun _ => rfl) (fun _ => rfl) (fun _ => rfl) (fun _ => rfl) (fun _ => rfl) (fun _ => rfl) (fun _ => rfl) (fun _ => rfl) (fun _ => rfl) (fun _ => rfl) (fun _ => rfl)) ⟨_, (relc_frm ci6 rc8 (frm_hv rfl rfl)), (relm_keep rm9 rfl rfl rfl rfl rfl rfl rfl rfl rfl rfl rfl rfl (fun _ => rfl) (fun _ => rfl) (fun _ => rfl) (fun _ => rfl) (fun _ => rfl) (fun _ => rfl) (fun _ => rfl) (fun _ => rfl) (fun _ => rfl))⟩
def PL12 : Cod := [(762, .aload_n 1, 1), (763, .aload_n 0, 1), (764, .iload_n 3, 1), (765, .iconst 1, 1), (766, .iadd, 1), (767, .iaload, 1), (768, .aload_n 0, 1), (769, .iload_n 3, 1), (770, .iconst 2, 1), (771, .iadd, 1), (772, .iaload, 1), (773, .aload_n 0, 1), (774, .iload_n 3, 1), (775, .iconst 3, 1), (776, .iadd, 1), (777, .iaload, 1), (778, .invokevirtual 70, 3), (781, .pop, 1), (782, .aload_n 2, 1), (783, .aload_n 0, 1), (784, .iload_n 3, 1), (785, .iconst 1, 1), (786, .iadd, 1), (787, .iaload, 1), (788, .aload_n 0, 1), (789, .iload_n 3, 1), (790, .iconst 2, 1), (791, .iadd, 1), (792, .iaload, 1), (793, .aload_n 0, 1), (794, .iload_n 3, 1), (795, .iconst 3, 1), (796, .iadd, 1), (797, .iaload, 1), (798, .invokevirtual 73, 3), (801, .pop, 1), (802, .goto 859, 3)]
theorem hPL12 : Dec code PL12 := dec_of (by decide +kernel)
set_option maxRecDepth 100000 in
set_option maxHeartbeats 4000000 in
theorem law_12 {E : En} {nm : String} {as : List Vl} {mc ms : Nat} {Y : Option Vl → Sg → Gh → Prop} {X : Xp} {b L : Nat} {sv : Int → Int} (hX : Cl E (mL nm) as 840 mc ms Y X) (hs : Scr X b L sv) {cs ss : Nat} {S : Sg} {G : Gh} {x i : Int} (i0 : 0 ≤ i) (i1 : i + 8 ≤ L) (i2 : i ≤ 4096) (hx : S x = 128) (hm : S (Ad E 1) = 1) (ci : CI E S G) (mi : MI E G) (rel : ∃ t : Tz, RelC S G x t ∧ RelM E G t) (hc : cs + 704 ≤ mc) (hq : ss + 6964 ≤ ms) (kk : ∀ (cs' ss' : Nat) (S' : Sg) (G' : Gh), cs' ≤ cs + 704 → ss' ≤ ss + 6964 → S' x = 128 → S' (Ad E 1) = 1 → CI E S' G' → MI E G' → (∃ t : Tz, RelC S' G' x t ∧ RelM E G' t) → X cs' ss' 1661 [] [(0, (2, (b : Int))), (1, (2, x)), (2, (2, Ad E 1)), (3, (0, i))] S' G') : X cs ss 762 [] [(0, (2, (b : Int))), (1, (2, x)), (2, (2, Ad E 1)), (3, (0, i))] S G := by
  have hP := hPL12
  obtain ⟨t, rc, rm⟩ := rel
  refine r_ex hX hP 5 (pc' := 767) (st' := [(0, (i + 1)), (2, (b : Int)), (2, x)]) (lo' := [(0, (2, (b : Int))), (1, (2, x)), (2, (2, Ad E 1)), (3, (0, i))]) rfl ?_
  refine scr_rd hs hP rfl (by first | decide | omega) (by first | decide | omega) ?_
  refine r_ex hX hP 4 (pc' := 772) (st' := [(0, (i + 2)), (2, (b : Int)), (0, (sv (i + 1))), (2, x)]) (lo' := [(0, (2, (b : Int))), (1, (2, x)), (2, (2, Ad E 1)), (3, (0, i))]) rfl ?_
  refine scr_rd hs hP rfl (by first | decide | omega) (by first | decide | omega) ?_
  refine r_ex hX hP 4 (pc' := 777) (st' := [(0, (i + 3)), (2, (b : Int)), (0, (sv (i + 2))), (0, (sv (i + 1))), (2, x)]) (lo' := [(0, (2, (b : Int))), (1, (2, x)), (2, (2, Ad E 1)), (3, (0, i))]) rfl ?_
  refine scr_rd hs hP rfl (by first | decide | omega) (by first | decide | omega) ?_
  have bb2 := hs.1 (i + 1)
  have bb3 := hs.1 (i + 2)
  have bb4 := hs.1 (i + 3)
  refine r_callV gd hX hP rfl cv_L_70_128 hx (d' := 7) (mc' := 0) (ms' := 0) (as' := [(0, (sv (i + 1))), (0, (sv (i + 2))), (0, (sv (i + 3)))]) (st := []) (by first | decide | omega) (by first | decide | omega) (by first | decide | omega) rfl rfl (Nat.le_of_ble_eq_true rfl) (c_X11_total E S G x (sv (i + 1)) (sv (i + 2)) (sv (i + 3)) hx (by first | decide | omega) (by first | decide | omega) (by first | decide | omega) (by first | decide | omega) (by first | decide | omega) (by first | decide | omega) ci) ?_
  rintro _ _ _ ⟨rfl, ⟨G5, rfl⟩, z1, rfl, z1a, z1b⟩
  have ci6 : CI E S (hw [(93, -1), (95, -1), (96, -1), (97, -1), (115, -1), (116, -1), (118, -1), (119, -1), (125, -1), (126, -1), (127, -1), (128, 0), (129, 1), (129, 2), (129, 15), (129, 16)] G G5) := ci_hw ci rfl
  have mi7 : MI E (hw [(93, -1), (95, -1), (96, -1), (97, -1), (115, -1), (116, -1), (118, -1), (119, -1), (125, -1), (126, -1), (127, -1), (128, 0), (129, 1), (129, 2), (129, 15), (129, 16)] G G5) := mi_hwL mi rfl
  have rc8 : RelC S (hw [(93, -1), (95, -1), (96, -1), (97, -1), (115, -1), (116, -1), (118, -1), (119, -1), (125, -1), (126, -1), (127, -1), (128, 0), (129, 1), (129, 2), (129, 15), (129, 16)] G G5) x t := relc_frm ci rc (frm_hw rfl)
  have rm9 : RelM E (hw [(93, -1), (95, -1), (96, -1), (97, -1), (115, -1), (116, -1), (118, -1), (119, -1), (125, -1), (126, -1), (127, -1), (128, 0), (129, 1), (129, 2), (129, 15), (129, 16)] G G5) t := relm_hwL rm rfl
  refine r_ex hX hP 6 (pc' := 787) (st' := [(0, (i + 1)), (2, (b : Int)), (2, Ad E 1)]) (lo' := [(0, (2, (b : Int))), (1, (2, x)), (2, (2, Ad E 1)), (3, (0, i))]) rfl ?_
  refine scr_rd hs hP rfl (by first | decide | omega) (by first | decide | omega) ?_
  refine r_ex hX hP 4 (pc' := 792) (st' := [(0, (i + 2)), (2, (b : Int)), (0, (sv (i + 1))), (2, Ad E 1)]) (lo' := [(0, (2, (b : Int))), (1, (2, x)), (2, (2, Ad E 1)), (3, (0, i))]) rfl ?_
  refine scr_rd hs hP rfl (by first | decide | omega) (by first | decide | omega) ?_
  refine r_ex hX hP 4 (pc' := 797) (st' := [(0, (i + 3)), (2, (b : Int)), (0, (sv (i + 2))), (0, (sv (i + 1))), (2, Ad E 1)]) (lo' := [(0, (2, (b : Int))), (1, (2, x)), (2, (2, Ad E 1)), (3, (0, i))]) rfl ?_
  refine scr_rd hs hP rfl (by first | decide | omega) (by first | decide | omega) ?_
  have bb11 := hs.1 (i + 1)
  have bb12 := hs.1 (i + 2)
  have bb13 := hs.1 (i + 3)
  refine r_callV gd hX hP rfl cv_L_73_1 hm (d' := 41) (mc' := 0) (ms' := 0) (as' := [(0, (sv (i + 1))), (0, (sv (i + 2))), (0, (sv (i + 3)))]) (st := []) (by first | decide | omega) (by first | decide | omega) (by first | decide | omega) rfl rfl (Nat.le_of_ble_eq_true rfl) (c_X12_total E S (hw [(93, -1), (95, -1), (96, -1), (97, -1), (115, -1), (116, -1), (118, -1), (119, -1), (125, -1), (126, -1), (127, -1), (128, 0), (129, 1), (129, 2), (129, 15), (129, 16)] G G5) (sv (i + 1)) (sv (i + 2)) (sv (i + 3)) hm (by first | decide | omega) (by first | decide | omega) (by first | decide | omega) (by first | decide | omega) (by first | decide | omega) (by first | decide | omega) mi7) ?_
  rintro _ _ _ ⟨rfl, ⟨G14, rfl⟩, z10, rfl, z10a, z10b⟩
  refine r_ex hX hP 2 (pc' := 1661) (st' := []) (lo' := [(0, (2, (b : Int))), (1, (2, x)), (2, (2, Ad E 1)), (3, (0, i))]) rfl ?_
  exact kk _ _ _ _ (by first | decide | omega) (by first | decide | omega) hx hm (ci_hvL ci6 rfl) (mi_keep mi7 rfl rfl rfl rfl rfl rfl (fun _ => rfl) (fun _ => rfl) (fun _ => rfl) (fun _ => rfl) (fun _ => rfl) (fun _ => rfl) (fun _ => rfl) (fun _ => rfl) (fun _ => rfl) (fun _ => rfl) (fun _ => rfl) (fun _ => rfl) (fun _ => rfl)) ⟨_, (relc_frm ci6 rc8 (frm_hv rfl rfl)), (relm_keep rm9 rfl rfl rfl rfl rfl rfl rfl rfl rfl rfl rfl rfl (fun _ => rfl) (fun _ => rfl) (fun _ => rfl) (fun _ => rfl) (fun _ => rfl) (fun _ => rfl) (fun _ => rfl) (fun _ => rfl) (fun _ => rfl))⟩
def PL13 : Cod := [(805, .aload_n 1, 1), (806, .aload_n 0, 1), (807, .iload_n 3, 1), (808, .iconst 1, 1), (809, .iadd, 1), (810, .iaload, 1), (811, .aload_n 0, 1), (812, .iload_n 3, 1), (813, .iconst 2, 1), (814, .iadd, 1), (815, .iaload, 1), (816, .aload_n 0, 1), (817, .iload_n 3, 1), (818, .iconst 3, 1), (819, .iadd, 1), (820, .iaload, 1), (821, .invokevirtual 74, 3), (824, .pop2, 1), (825, .aload_n 2, 1), (826, .aload_n 0, 1), (827, .iload_n 3, 1), (828, .iconst 1, 1), (829, .iadd, 1), (830, .iaload, 1), (831, .aload_n 0, 1), (832, .iload_n 3, 1), (833, .iconst 2, 1), (834, .iadd, 1), (835, .iaload, 1), (836, .aload_n 0, 1), (837, .iload_n 3, 1), (838, .iconst 3, 1), (839, .iadd, 1), (840, .iaload, 1), (841, .invokevirtual 78, 3), (844, .pop2, 1), (845, .goto 816, 3)]
theorem hPL13 : Dec code PL13 := dec_of (by decide +kernel)
set_option maxRecDepth 100000 in
set_option maxHeartbeats 4000000 in
theorem law_13 {E : En} {nm : String} {as : List Vl} {mc ms : Nat} {Y : Option Vl → Sg → Gh → Prop} {X : Xp} {b L : Nat} {sv : Int → Int} (hX : Cl E (mL nm) as 840 mc ms Y X) (hs : Scr X b L sv) {cs ss : Nat} {S : Sg} {G : Gh} {x i : Int} (i0 : 0 ≤ i) (i1 : i + 8 ≤ L) (i2 : i ≤ 4096) (hx : S x = 128) (hm : S (Ad E 1) = 1) (ci : CI E S G) (mi : MI E G) (rel : ∃ t : Tz, RelC S G x t ∧ RelM E G t) (hc : cs + 704 ≤ mc) (hq : ss + 6964 ≤ ms) (kk : ∀ (cs' ss' : Nat) (S' : Sg) (G' : Gh), cs' ≤ cs + 704 → ss' ≤ ss + 6964 → S' x = 128 → S' (Ad E 1) = 1 → CI E S' G' → MI E G' → (∃ t : Tz, RelC S' G' x t ∧ RelM E G' t) → X cs' ss' 1661 [] [(0, (2, (b : Int))), (1, (2, x)), (2, (2, Ad E 1)), (3, (0, i))] S' G') : X cs ss 805 [] [(0, (2, (b : Int))), (1, (2, x)), (2, (2, Ad E 1)), (3, (0, i))] S G := by
  have hP := hPL13
  obtain ⟨t, rc, rm⟩ := rel
  refine r_ex hX hP 5 (pc' := 810) (st' := [(0, (i + 1)), (2, (b : Int)), (2, x)]) (lo' := [(0, (2, (b : Int))), (1, (2, x)), (2, (2, Ad E 1)), (3, (0, i))]) rfl ?_
  refine scr_rd hs hP rfl (by first | decide | omega) (by first | decide | omega) ?_
  refine r_ex hX hP 4 (pc' := 815) (st' := [(0, (i + 2)), (2, (b : Int)), (0, (sv (i + 1))), (2, x)]) (lo' := [(0, (2, (b : Int))), (1, (2, x)), (2, (2, Ad E 1)), (3, (0, i))]) rfl ?_
  refine scr_rd hs hP rfl (by first | decide | omega) (by first | decide | omega) ?_
  refine r_ex hX hP 4 (pc' := 820) (st' := [(0, (i + 3)), (2, (b : Int)), (0, (sv (i + 2))), (0, (sv (i + 1))), (2, x)]) (lo' := [(0, (2, (b : Int))), (1, (2, x)), (2, (2, Ad E 1)), (3, (0, i))]) rfl ?_
  refine scr_rd hs hP rfl (by first | decide | omega) (by first | decide | omega) ?_
  have bb2 := hs.1 (i + 1)
  have bb3 := hs.1 (i + 2)
  have bb4 := hs.1 (i + 3)
  refine r_callV gd hX hP rfl cv_L_74_128 hx (d' := 7) (mc' := 0) (ms' := 0) (as' := [(0, (sv (i + 1))), (0, (sv (i + 2))), (0, (sv (i + 3)))]) (st := []) (by first | decide | omega) (by first | decide | omega) (by first | decide | omega) rfl rfl (Nat.le_of_ble_eq_true rfl) (c_X11_worth E S G x (sv (i + 1)) (sv (i + 2)) (sv (i + 3)) hx (by first | decide | omega) (by first | decide | omega) (by first | decide | omega) (by first | decide | omega) (by first | decide | omega) (by first | decide | omega) ci) ?_
  rintro _ _ _ ⟨rfl, ⟨G5, rfl⟩, z1, rfl, z1a, z1b⟩
  have ci6 : CI E S (hw [(93, -1), (95, -1), (96, -1), (97, -1), (115, -1), (116, -1), (118, -1), (119, -1), (125, -1), (126, -1), (127, -1), (128, 0), (129, 1), (129, 2), (129, 15), (129, 16)] G G5) := ci_hw ci rfl
  have mi7 : MI E (hw [(93, -1), (95, -1), (96, -1), (97, -1), (115, -1), (116, -1), (118, -1), (119, -1), (125, -1), (126, -1), (127, -1), (128, 0), (129, 1), (129, 2), (129, 15), (129, 16)] G G5) := mi_hwL mi rfl
  have rc8 : RelC S (hw [(93, -1), (95, -1), (96, -1), (97, -1), (115, -1), (116, -1), (118, -1), (119, -1), (125, -1), (126, -1), (127, -1), (128, 0), (129, 1), (129, 2), (129, 15), (129, 16)] G G5) x t := relc_frm ci rc (frm_hw rfl)
  have rm9 : RelM E (hw [(93, -1), (95, -1), (96, -1), (97, -1), (115, -1), (116, -1), (118, -1), (119, -1), (125, -1), (126, -1), (127, -1), (128, 0), (129, 1), (129, 2), (129, 15), (129, 16)] G G5) t := relm_hwL rm rfl
  refine r_ex hX hP 6 (pc' := 830) (st' := [(0, (i + 1)), (2, (b : Int)), (2, Ad E 1)]) (lo' := [(0, (2, (b : Int))), (1, (2, x)), (2, (2, Ad E 1)), (3, (0, i))]) rfl ?_
  refine scr_rd hs hP rfl (by first | decide | omega) (by first | decide | omega) ?_
  refine r_ex hX hP 4 (pc' := 835) (st' := [(0, (i + 2)), (2, (b : Int)), (0, (sv (i + 1))), (2, Ad E 1)]) (lo' := [(0, (2, (b : Int))), (1, (2, x)), (2, (2, Ad E 1)), (3, (0, i))]) rfl ?_
  refine scr_rd hs hP rfl (by first | decide | omega) (by first | decide | omega) ?_
  refine r_ex hX hP 4 (pc' := 840) (st' := [(0, (i + 3)), (2, (b : Int)), (0, (sv (i + 2))), (0, (sv (i + 1))), (2, Ad E 1)]) (lo' := [(0, (2, (b : Int))), (1, (2, x)), (2, (2, Ad E 1)), (3, (0, i))]) rfl ?_
  refine scr_rd hs hP rfl (by first | decide | omega) (by first | decide | omega) ?_
  have bb11 := hs.1 (i + 1)
  have bb12 := hs.1 (i + 2)
  have bb13 := hs.1 (i + 3)
  refine r_callV gd hX hP rfl cv_L_78_1 hm (d' := 41) (mc' := 0) (ms' := 0) (as' := [(0, (sv (i + 1))), (0, (sv (i + 2))), (0, (sv (i + 3)))]) (st := []) (by first | decide | omega) (by first | decide | omega) (by first | decide | omega) rfl rfl (Nat.le_of_ble_eq_true rfl) (c_X12_worth E S (hw [(93, -1), (95, -1), (96, -1), (97, -1), (115, -1), (116, -1), (118, -1), (119, -1), (125, -1), (126, -1), (127, -1), (128, 0), (129, 1), (129, 2), (129, 15), (129, 16)] G G5) (sv (i + 1)) (sv (i + 2)) (sv (i + 3)) hm (by first | decide | omega) (by first | decide | omega) (by first | decide | omega) (by first | decide | omega) (by first | decide | omega) (by first | decide | omega) mi7) ?_
  rintro _ _ _ ⟨rfl, ⟨G14, rfl⟩, z10, rfl, z10a, z10b⟩
  refine r_ex hX hP 2 (pc' := 1661) (st' := []) (lo' := [(0, (2, (b : Int))), (1, (2, x)), (2, (2, Ad E 1)), (3, (0, i))]) rfl ?_
  exact kk _ _ _ _ (by first | decide | omega) (by first | decide | omega) hx hm (ci_hvL ci6 rfl) (mi_keep mi7 rfl rfl rfl rfl rfl rfl (fun _ => rfl) (fun _ => rfl) (fun _ => rfl) (fun _ => rfl) (fun _ => rfl) (fun _ => rfl) (fun _ => rfl) (fun _ => rfl) (fun _ => rfl) (fun _ => rfl) (fun _ => rfl) (fun _ => rfl) (fun _ => rfl)) ⟨_, (relc_frm ci6 rc8 (frm_hv rfl rfl)), (relm_keep rm9 rfl rfl rfl rfl rfl rfl rfl rfl rfl rfl rfl rfl (fun _ => rfl) (fun _ => rfl) (fun _ => rfl) (fun _ => rfl) (fun _ => rfl) (fun _ => rfl) (fun _ => rfl) (fun _ => rfl) (fun _ => rfl))⟩
def PL14 : Cod := [(848, .aload_n 1, 1), (849, .aload_n 0, 1), (850, .iload_n 3, 1), (851, .iconst 1, 1), (852, .iadd, 1), (853, .iaload, 1), (854, .aload_n 0, 1), (855, .iload_n 3, 1), (856, .iconst 2, 1), (857, .iadd, 1), (858, .iaload, 1), (859, .aload_n 0, 1), (860, .iload_n 3, 1), (861, .iconst 3, 1), (862, .iadd, 1), (863, .iaload, 1), (864, .invokevirtual 79, 3), (867, .pop2, 1), (868, .aload_n 2, 1), (869, .aload_n 0, 1), (870, .iload_n 3, 1), (871, .iconst 1, 1), (872, .iadd, 1), (873, .iaload, 1), (874, .aload_n 0, 1), (875, .iload_n 3, 1), (876, .iconst 2, 1), (877, .iadd, 1), (878, .iaload, 1), (879, .aload_n 0, 1), (880, .iload_n 3, 1), (881, .iconst 3, 1), (882, .iadd, 1), (883, .iaload, 1), (884, .invokevirtual 82, 3), (887, .pop2, 1), (888, .goto 773, 3)]
theorem hPL14 : Dec code PL14 := dec_of (by decide +kernel)
set_option maxRecDepth 100000 in
set_option maxHeartbeats 4000000 in
theorem law_14 {E : En} {nm : String} {as : List Vl} {mc ms : Nat} {Y : Option Vl → Sg → Gh → Prop} {X : Xp} {b L : Nat} {sv : Int → Int} (hX : Cl E (mL nm) as 840 mc ms Y X) (hs : Scr X b L sv) {cs ss : Nat} {S : Sg} {G : Gh} {x i : Int} (i0 : 0 ≤ i) (i1 : i + 8 ≤ L) (i2 : i ≤ 4096) (hx : S x = 128) (hm : S (Ad E 1) = 1) (ci : CI E S G) (mi : MI E G) (rel : ∃ t : Tz, RelC S G x t ∧ RelM E G t) (hc : cs + 704 ≤ mc) (hq : ss + 6964 ≤ ms) (kk : ∀ (cs' ss' : Nat) (S' : Sg) (G' : Gh), cs' ≤ cs + 704 → ss' ≤ ss + 6964 → S' x = 128 → S' (Ad E 1) = 1 → CI E S' G' → MI E G' → (∃ t : Tz, RelC S' G' x t ∧ RelM E G' t) → X cs' ss' 1661 [] [(0, (2, (b : Int))), (1, (2, x)), (2, (2, Ad E 1)), (3, (0, i))] S' G') : X cs ss 848 [] [(0, (2, (b : Int))), (1, (2, x)), (2, (2, Ad E 1)), (3, (0, i))] S G := by
  have hP := hPL14
  obtain ⟨t, rc, rm⟩ := rel
  refine r_ex hX hP 5 (pc' := 853) (st' := [(0, (i + 1)), (2, (b : Int)), (2, x)]) (lo' := [(0, (2, (b : Int))), (1, (2, x)), (2, (2, Ad E 1)), (3, (0, i))]) rfl ?_
  refine scr_rd hs hP rfl (by first | decide | omega) (by first | decide | omega) ?_
  refine r_ex hX hP 4 (pc' := 858) (st' := [(0, (i + 2)), (2, (b : Int)), (0, (sv (i + 1))), (2, x)]) (lo' := [(0, (2, (b : Int))), (1, (2, x)), (2, (2, Ad E 1)), (3, (0, i))]) rfl ?_
  refine scr_rd hs hP rfl (by first | decide | omega) (by first | decide | omega) ?_
  refine r_ex hX hP 4 (pc' := 863) (st' := [(0, (i + 3)), (2, (b : Int)), (0, (sv (i + 2))), (0, (sv (i + 1))), (2, x)]) (lo' := [(0, (2, (b : Int))), (1, (2, x)), (2, (2, Ad E 1)), (3, (0, i))]) rfl ?_
  refine scr_rd hs hP rfl (by first | decide | omega) (by first | decide | omega) ?_
  have bb2 := hs.1 (i + 1)
  have bb3 := hs.1 (i + 2)
  have bb4 := hs.1 (i + 3)
  refine r_callV gd hX hP rfl cv_L_79_128 hx (d' := 7) (mc' := 0) (ms' := 0) (as' := [(0, (sv (i + 1))), (0, (sv (i + 2))), (0, (sv (i + 3)))]) (st := []) (by first | decide | omega) (by first | decide | omega) (by first | decide | omega) rfl rfl (Nat.le_of_ble_eq_true rfl) (c_X11_coin E S G x (sv (i + 1)) (sv (i + 2)) (sv (i + 3)) hx (by first | decide | omega) (by first | decide | omega) (by first | decide | omega) (by first | decide | omega) (by first | decide | omega) (by first | decide | omega) ci) ?_
  rintro _ _ _ ⟨rfl, ⟨G5, rfl⟩, z1, rfl, z1a, z1b⟩
  have ci6 : CI E S (hw [(93, -1), (95, -1), (96, -1), (97, -1), (115, -1), (116, -1), (118, -1), (119, -1), (125, -1), (126, -1), (127, -1), (128, 0), (129, 1), (129, 2), (129, 15), (129, 16)] G G5) := ci_hw ci rfl
  have mi7 : MI E (hw [(93, -1), (95, -1), (96, -1), (97, -1), (115, -1), (116, -1), (118, -1), (119, -1), (125, -1), (126, -1), (127, -1), (128, 0), (129, 1), (129, 2), (129, 15), (129, 16)] G G5) := mi_hwL mi rfl
  have rc8 : RelC S (hw [(93, -1), (95, -1), (96, -1), (97, -1), (115, -1), (116, -1), (118, -1), (119, -1), (125, -1), (126, -1), (127, -1), (128, 0), (129, 1), (129, 2), (129, 15), (129, 16)] G G5) x t := relc_frm ci rc (frm_hw rfl)
  have rm9 : RelM E (hw [(93, -1), (95, -1), (96, -1), (97, -1), (115, -1), (116, -1), (118, -1), (119, -1), (125, -1), (126, -1), (127, -1), (128, 0), (129, 1), (129, 2), (129, 15), (129, 16)] G G5) t := relm_hwL rm rfl
  refine r_ex hX hP 6 (pc' := 873) (st' := [(0, (i + 1)), (2, (b : Int)), (2, Ad E 1)]) (lo' := [(0, (2, (b : Int))), (1, (2, x)), (2, (2, Ad E 1)), (3, (0, i))]) rfl ?_
  refine scr_rd hs hP rfl (by first | decide | omega) (by first | decide | omega) ?_
  refine r_ex hX hP 4 (pc' := 878) (st' := [(0, (i + 2)), (2, (b : Int)), (0, (sv (i + 1))), (2, Ad E 1)]) (lo' := [(0, (2, (b : Int))), (1, (2, x)), (2, (2, Ad E 1)), (3, (0, i))]) rfl ?_
  refine scr_rd hs hP rfl (by first | decide | omega) (by first | decide | omega) ?_
  refine r_ex hX hP 4 (pc' := 883) (st' := [(0, (i + 3)), (2, (b : Int)), (0, (sv (i + 2))), (0, (sv (i + 1))), (2, Ad E 1)]) (lo' := [(0, (2, (b : Int))), (1, (2, x)), (2, (2, Ad E 1)), (3, (0, i))]) rfl ?_
  refine scr_rd hs hP rfl (by first | decide | omega) (by first | decide | omega) ?_
  have bb11 := hs.1 (i + 1)
  have bb12 := hs.1 (i + 2)
  have bb13 := hs.1 (i + 3)
  refine r_callV gd hX hP rfl cv_L_82_1 hm (d' := 41) (mc' := 0) (ms' := 0) (as' := [(0, (sv (i + 1))), (0, (sv (i + 2))), (0, (sv (i + 3)))]) (st := []) (by first | decide | omega) (by first | decide | omega) (by first | decide | omega) rfl rfl (Nat.le_of_ble_eq_true rfl) (c_X12_coin E S (hw [(93, -1), (95, -1), (96, -1), (97, -1), (115, -1), (116, -1), (118, -1), (119, -1), (125, -1), (126, -1), (127, -1), (128, 0), (129, 1), (129, 2), (129, 15), (129, 16)] G G5) (sv (i + 1)) (sv (i + 2)) (sv (i + 3)) hm (by first | decide | omega) (by first | decide | omega) (by first | decide | omega) (by first | decide | omega) (by first | decide | omega) (by first | decide | omega) mi7) ?_
  rintro _ _ _ ⟨rfl, ⟨G14, rfl⟩, z10, rfl, z10a, z10b⟩
  refine r_ex hX hP 2 (pc' := 1661) (st' := []) (lo' := [(0, (2, (b : Int))), (1, (2, x)), (2, (2, Ad E 1)), (3, (0, i))]) rfl ?_
  exact kk _ _ _ _ (by first | decide | omega) (by first | decide | omega) hx hm (ci_hvL ci6 rfl) (mi_keep mi7 rfl rfl rfl rfl rfl rfl (fun _ => rfl) (fun _ => rfl) (fun _ => rfl) (fun _ => rfl) (fun _ => rfl) (fun _ => rfl) (fun _ => rfl) (fun _ => rfl) (fun _ => rfl) (fun _ => rfl) (fun _ => rfl) (fun _ => rfl) (fun _ => rfl)) ⟨_, (relc_frm ci6 rc8 (frm_hv rfl rfl)), (relm_keep rm9 rfl rfl rfl rfl rfl rfl rfl rfl rfl rfl rfl rfl (fun _ => rfl) (fun _ => rfl) (fun _ => rfl) (fun _ => rfl) (fun _ => rfl) (fun _ => rfl) (fun _ => rfl) (fun _ => rfl) (fun _ => rfl))⟩
def PL15 : Cod := [(891, .aload_n 1, 1), (892, .aload_n 0, 1), (893, .iload_n 3, 1), (894, .iconst 1, 1), (895, .iadd, 1), (896, .iaload, 1), (897, .aload_n 0, 1), (898, .iload_n 3, 1), (899, .iconst 2, 1), (900, .iadd, 1), (901, .iaload, 1), (902, .invokevirtual 83, 3), (905, .pop, 1), (906, .aload_n 2, 1), (907, .aload_n 0, 1), (908, .iload_n 3, 1), (909, .iconst 1, 1), (910, .iadd, 1), (911, .iaload, 1), (912, .aload_n 0, 1), (913, .iload_n 3, 1), (914, .iconst 2, 1), (915, .iadd, 1), (916, .iaload, 1), (917, .invokevirtual 87, 3), (920, .pop, 1), (921, .goto 740, 3)]
theorem hPL15 : Dec code PL15 := dec_of (by decide +kernel)
set_option maxRecDepth 100000 in
set_option maxHeartbeats 4000000 in
theorem law_15 {E : En} {nm : String} {as : List Vl} {mc ms : Nat} {Y : Option Vl → Sg → Gh → Prop} {X : Xp} {b L : Nat} {sv : Int → Int} (hX : Cl E (mL nm) as 840 mc ms Y X) (hs : Scr X b L sv) {cs ss : Nat} {S : Sg} {G : Gh} {x i : Int} (i0 : 0 ≤ i) (i1 : i + 8 ≤ L) (i2 : i ≤ 4096) (hx : S x = 128) (hm : S (Ad E 1) = 1) (ci : CI E S G) (mi : MI E G) (rel : ∃ t : Tz, RelC S G x t ∧ RelM E G t) (hc : cs + 704 ≤ mc) (hq : ss + 6964 ≤ ms) (kk : ∀ (cs' ss' : Nat) (S' : Sg) (G' : Gh), cs' ≤ cs + 704 → ss' ≤ ss + 6964 → S' x = 128 → S' (Ad E 1) = 1 → CI E S' G' → MI E G' → (∃ t : Tz, RelC S' G' x t ∧ RelM E G' t) → X cs' ss' 1661 [] [(0, (2, (b : Int))), (1, (2, x)), (2, (2, Ad E 1)), (3, (0, i))] S' G') : X cs ss 891 [] [(0, (2, (b : Int))), (1, (2, x)), (2, (2, Ad E 1)), (3, (0, i))] S G := by
  have hP := hPL15
  obtain ⟨t, rc, rm⟩ := rel
  refine r_ex hX hP 5 (pc' := 896) (st' := [(0, (i + 1)), (2, (b : Int)), (2, x)]) (lo' := [(0, (2, (b : Int))), (1, (2, x)), (2, (2, Ad E 1)), (3, (0, i))]) rfl ?_
  refine scr_rd hs hP rfl (by first | decide | omega) (by first | decide | omega) ?_
  refine r_ex hX hP 4 (pc' := 901) (st' := [(0, (i + 2)), (2, (b : Int)), (0, (sv (i + 1))), (2, x)]) (lo' := [(0, (2, (b : Int))), (1, (2, x)), (2, (2, Ad E 1)), (3, (0, i))]) rfl ?_
  refine scr_rd hs hP rfl (by first | decide | omega) (by first | decide | omega) ?_
  have bb2 := hs.1 (i + 1)
  have bb3 := hs.1 (i + 2)
  refine r_callV gd hX hP rfl cv_L_83_128 hx (d' := 4) (mc' := 0) (ms' := 0) (as' := [(0, (sv (i + 1))), (0, (sv (i + 2)))]) (st := []) (by first | decide | omega) (by first | decide | omega) (by first | decide | omega) rfl rfl (Nat.le_of_ble_eq_true rfl) (c_X11_chosen E S G x (sv (i + 1)) (sv (i + 2)) hx (by first | decide | omega) (by first | decide | omega) (by first | decide | omega) (by first | decide | omega) ci) ?_
  rintro _ _ _ ⟨rfl, ⟨G4, rfl⟩, z1, rfl, z1a, z1b⟩
  have ci5 : CI E S (hw [(128, 0)] G G4) := ci_hw ci rfl
  have mi6 : MI E (hw [(128, 0)] G G4) := mi_hwL mi rfl
  have rc7 : RelC S (hw [(128, 0)] G G4) x t := relc_frm ci rc (frm_hw rfl)
  have rm8 : RelM E (hw [(128, 0)] G G4) t := relm_hwL rm rfl
  refine r_ex hX hP 6 (pc' := 911) (st' := [(0, (i + 1)), (2, (b : Int)), (2, Ad E 1)]) (lo' := [(0, (2, (b : Int))), (1, (2, x)), (2, (2, Ad E 1)), (3, (0, i))]) rfl ?_
  refine scr_rd hs hP rfl (by first | decide | omega) (by first | decide | omega) ?_
  refine r_ex hX hP 4 (pc' := 916) (st' := [(0, (i + 2)), (2, (b : Int)), (0, (sv (i + 1))), (2, Ad E 1)]) (lo' := [(0, (2, (b : Int))), (1, (2, x)), (2, (2, Ad E 1)), (3, (0, i))]) rfl ?_
  refine scr_rd hs hP rfl (by first | decide | omega) (by first | decide | omega) ?_
  have bb10 := hs.1 (i + 1)
  have bb11 := hs.1 (i + 2)
  refine r_callV gd hX hP rfl cv_L_87_1 hm (d' := 3) (mc' := 0) (ms' := 0) (as' := [(0, (sv (i + 1))), (0, (sv (i + 2)))]) (st := []) (by first | decide | omega) (by first | decide | omega) (by first | decide | omega) rfl rfl (Nat.le_of_ble_eq_true rfl) (c_X12_chosen E S (hw [(128, 0)] G G4) (sv (i + 1)) (sv (i + 2)) hm (by first | decide | omega) (by first | decide | omega) (by first | decide | omega) (by first | decide | omega) mi6) ?_
  rintro _ _ _ ⟨rfl, ⟨G12, rfl⟩, z9, rfl, z9a, z9b⟩
  refine r_ex hX hP 2 (pc' := 1661) (st' := []) (lo' := [(0, (2, (b : Int))), (1, (2, x)), (2, (2, Ad E 1)), (3, (0, i))]) rfl ?_
  exact kk _ _ _ _ (by first | decide | omega) (by first | decide | omega) hx hm (ci_hvL ci5 rfl) (mi_keep mi6 rfl rfl rfl rfl rfl rfl (fun _ => rfl) (fun _ => rfl) (fun _ => rfl) (fun _ => rfl) (fun _ => rfl) (fun _ => rfl) (fun _ => rfl) (fun _ => rfl) (fun _ => rfl) (fun _ => rfl) (fun _ => rfl) (fun _ => rfl) (fun _ => rfl)) ⟨_, (relc_frm ci5 rc7 (frm_hv rfl rfl)), (relm_keep rm8 rfl rfl rfl rfl rfl rfl rfl rfl rfl rfl rfl rfl (fun _ => rfl) (fun _ => rfl) (fun _ => rfl) (fun _ => rfl) (fun _ => rfl) (fun _ => rfl) (fun _ => rfl) (fun _ => rfl) (fun _ => rfl))⟩
def PL16 : Cod := [(924, .aload_n 1, 1), (925, .aload_n 0, 1), (926, .iload_n 3, 1), (927, .iconst 1, 1), (928, .iadd, 1), (929, .iaload, 1), (930, .aload_n 0, 1), (931, .iload_n 3, 1), (932, .iconst 2, 1), (933, .iadd, 1), (934, .iaload, 1), (935, .aload_n 0, 1), (936, .iload_n 3, 1), (937, .iconst 3, 1), (938, .iadd, 1), (939, .iaload, 1), (940, .invokevirtual 88, 3), (943, .pop, 1), (944, .aload_n 2, 1), (945, .aload_n 0, 1), (946, .iload_n 3, 1), (947, .iconst 1, 1), (948, .iadd, 1), (949, .iaload, 1), (950, .aload_n 0, 1), (951, .iload_n 3, 1), (952, .iconst 2, 1), (953, .iadd, 1), (954, .iaload, 1), (955, .aload_n 0, 1), (956, .iload_n 3, 1), (957, .iconst 3, 1), (958, .iadd, 1), (959, .iaload, 1), (960, .invokevirtual 91, 3), (963, .pop, 1), (964, .goto 697, 3)]
theorem hPL16 : Dec code PL16 := dec_of (by decide +kernel)
set_option maxRecDepth 100000 in
set_option maxHeartbeats 4000000 in
theorem law_16 {E : En} {nm : String} {as : List Vl} {mc ms : Nat} {Y : Option Vl → Sg → Gh → Prop} {X : Xp} {b L : Nat} {sv : Int → Int} (hX : Cl E (mL nm) as 840 mc ms Y X) (hs : Scr X b L sv) {cs ss : Nat} {S : Sg} {G : Gh} {x i : Int} (i0 : 0 ≤ i) (i1 : i + 8 ≤ L) (i2 : i ≤ 4096) (hx : S x = 128) (hm : S (Ad E 1) = 1) (ci : CI E S G) (mi : MI E G) (rel : ∃ t : Tz, RelC S G x t ∧ RelM E G t) (hc : cs + 704 ≤ mc) (hq : ss + 6964 ≤ ms) (kk : ∀ (cs' ss' : Nat) (S' : Sg) (G' : Gh), cs' ≤ cs + 704 → ss' ≤ ss + 6964 → S' x = 128 → S' (Ad E 1) = 1 → CI E S' G' → MI E G' → (∃ t : Tz, RelC S' G' x t ∧ RelM E G' t) → X cs' ss' 1661 [] [(0, (2, (b : Int))), (1, (2, x)), (2, (2, Ad E 1)), (3, (0, i))] S' G') : X cs ss 924 [] [(0, (2, (b : Int))), (1, (2, x)), (2, (2, Ad E 1)), (3, (0, i))] S G := by
  have hP := hPL16
  obtain ⟨t, rc, rm⟩ := rel
  refine r_ex hX hP 5 (pc' := 929) (st' := [(0, (i + 1)), (2, (b : Int)), (2, x)]) (lo' := [(0, (2, (b : Int))), (1, (2, x)), (2, (2, Ad E 1)), (3, (0, i))]) rfl ?_
  refine scr_rd hs hP rfl (by first | decide | omega) (by first | decide | omega) ?_
  refine r_ex hX hP 4 (pc' := 934) (st' := [(0, (i + 2)), (2, (b : Int)), (0, (sv (i + 1))), (2, x)]) (lo' := [(0, (2, (b : Int))), (1, (2, x)), (2, (2, Ad E 1)), (3, (0, i))]) rfl ?_
  refine scr_rd hs hP rfl (by first | decide | omega) (by first | decide | omega) ?_
  refine r_ex hX hP 4 (pc' := 939) (st' := [(0, (i + 3)), (2, (b : Int)), (0, (sv (i + 2))), (0, (sv (i + 1))), (2, x)]) (lo' := [(0, (2, (b : Int))), (1, (2, x)), (2, (2, Ad E 1)), (3, (0, i))]) rfl ?_
  refine scr_rd hs hP rfl (by first | decide | omega) (by first | decide | omega) ?_
  have bb2 := hs.1 (i + 1)
  have bb3 := hs.1 (i + 2)
  have bb4 := hs.1 (i + 3)
  refine r_callV gd hX hP rfl cv_L_88_128 hx (d' := 7) (mc' := 0) (ms' := 0) (as' := [(0, (sv (i + 1))), (0, (sv (i + 2))), (0, (sv (i + 3)))]) (st := []) (by first | decide | omega) (by first | decide | omega) (by first | decide | omega) rfl rfl (Nat.le_of_ble_eq_true rfl) (c_X11_stays E S G x (sv (i + 1)) (sv (i + 2)) (sv (i + 3)) hx (by first | decide | omega) (by first | decide | omega) (by first | decide | omega) (by first | decide | omega) (by first | decide | omega) (by first | decide | omega) ci) ?_
  rintro _ _ _ ⟨rfl, ⟨G5, rfl⟩, z1, rfl, z1a, z1b⟩
  have ci6 : CI E S (hw [(93, -1), (95, -1), (96, -1), (97, -1), (115, -1), (116, -1), (118, -1), (119, -1), (125, -1), (126, -1), (127, -1), (128, 0), (129, 1), (129, 2), (129, 15), (129, 16)] G G5) := ci_hw ci rfl
  have mi7 : MI E (hw [(93, -1), (95, -1), (96, -1), (97, -1), (115, -1), (116, -1), (118, -1), (119, -1), (125, -1), (126, -1), (127, -1), (128, 0), (129, 1), (129, 2), (129, 15), (129, 16)] G G5) := mi_hwL mi rfl
  have rc8 : RelC S (hw [(93, -1), (95, -1), (96, -1), (97, -1), (115, -1), (116, -1), (118, -1), (119, -1), (125, -1), (126, -1), (127, -1), (128, 0), (129, 1), (129, 2), (129, 15), (129, 16)] G G5) x t := relc_frm ci rc (frm_hw rfl)
  have rm9 : RelM E (hw [(93, -1), (95, -1), (96, -1), (97, -1), (115, -1), (116, -1), (118, -1), (119, -1), (125, -1), (126, -1), (127, -1), (128, 0), (129, 1), (129, 2), (129, 15), (129, 16)] G G5) t := relm_hwL rm rfl
  refine r_ex hX hP 6 (pc' := 949) (st' := [(0, (i + 1)), (2, (b : Int)), (2, Ad E 1)]) (lo' := [(0, (2, (b : Int))), (1, (2, x)), (2, (2, Ad E 1)), (3, (0, i))]) rfl ?_
  refine scr_rd hs hP rfl (by first | decide | omega) (by first | decide | omega) ?_
  refine r_ex hX hP 4 (pc' := 954) (st' := [(0, (i + 2)), (2, (b : Int)), (0, (sv (i + 1))), (2, Ad E 1)]) (lo' := [(0, (2, (b : Int))), (1, (2, x)), (2, (2, Ad E 1)), (3, (0, i))]) rfl ?_
  refine scr_rd hs hP rfl (by first | decide | omega) (by first | decide | omega) ?_
  refine r_ex hX hP 4 (pc' := 959) (st' := [(0, (i + 3)), (2, (b : Int)), (0, (sv (i + 2))), (0, (sv (i + 1))), (2, Ad E 1)]) (lo' := [(0, (2, (b : Int))), (1, (2, x)), (2, (2, Ad E 1)), (3, (0, i))]) rfl ?_
  refine scr_rd hs hP rfl (by first | decide | omega) (by first | decide | omega) ?_
  have bb11 := hs.1 (i + 1)
  have bb12 := hs.1 (i + 2)
  have bb13 := hs.1 (i + 3)
  refine r_callV gd hX hP rfl cv_L_91_1 hm (d' := 40) (mc' := 0) (ms' := 0) (as' := [(0, (sv (i + 1))), (0, (sv (i + 2))), (0, (sv (i + 3)))]) (st := []) (by first | decide | omega) (by first | decide | omega) (by first | decide | omega) rfl rfl (Nat.le_of_ble_eq_true rfl) (c_X12_stays_ E S (hw [(93, -1), (95, -1), (96, -1), (97, -1), (115, -1), (116, -1), (118, -1), (119, -1), (125, -1), (126, -1), (127, -1), (128, 0), (129, 1), (129, 2), (129, 15), (129, 16)] G G5) (sv (i + 1)) (sv (i + 2)) (sv (i + 3)) hm (by first | decide | omega) (by first | decide | omega) (by first | decide | omega) (by first | decide | omega) (by first | decide | omega) (by first | decide | omega) mi7) ?_
  rintro _ _ _ ⟨rfl, ⟨G14, rfl⟩, z10, rfl, z10a, z10b⟩
  refine r_ex hX hP 2 (pc' := 1661) (st' := []) (lo' := [(0, (2, (b : Int))), (1, (2, x)), (2, (2, Ad E 1)), (3, (0, i))]) rfl ?_
  exact kk _ _ _ _ (by first | decide | omega) (by first | decide | omega) hx hm (ci_hvL ci6 rfl) (mi_keep mi7 rfl rfl rfl rfl rfl rfl (fun _ => rfl) (fun _ => rfl) (fun _ => rfl) (fun _ => rfl) (fun _ => rfl) (fun _ => rfl) (fun _ => rfl) (fun _ => rfl) (fun _ => rfl) (fun _ => rfl) (fun _ => rfl) (fun _ => rfl) (fun _ => rfl)) ⟨_, (relc_frm ci6 rc8 (frm_hv rfl rfl)), (relm_keep rm9 rfl rfl rfl rfl rfl rfl rfl rfl rfl rfl rfl rfl (fun _ => rfl) (fun _ => rfl) (fun _ => rfl) (fun _ => rfl) (fun _ => rfl) (fun _ => rfl) (fun _ => rfl) (fun _ => rfl) (fun _ => rfl))⟩
def PL17 : Cod := [(967, .aload_n 1, 1), (968, .aload_n 0, 1), (969, .iload_n 3, 1), (970, .iconst 1, 1), (971, .iadd, 1), (972, .iaload, 1), (973, .invokevirtual 92, 3), (976, .pop, 1), (977, .aload_n 2, 1), (978, .aload_n 0, 1), (979, .iload_n 3, 1), (980, .iconst 1, 1), (981, .iadd, 1), (982, .iaload, 1), (983, .invokevirtual 95, 3), (986, .pop, 1), (987, .goto 674, 3)]
theorem hPL17 : Dec code PL17 := dec_of (by decide +kernel)
set_option maxRecDepth 100000 in
set_option maxHeartbeats 4000000 in
theorem law_17 {E : En} {nm : String} {as : List Vl} {mc ms : Nat} {Y : Option Vl → Sg → Gh → Prop} {X : Xp} {b L : Nat} {sv : Int → Int} (hX : Cl E (mL nm) as 840 mc ms Y X) (hs : Scr X b L sv) {cs ss : Nat} {S : Sg} {G : Gh} {x i : Int} (i0 : 0 ≤ i) (i1 : i + 8 ≤ L) (i2 : i ≤ 4096) (hx : S x = 128) (hm : S (Ad E 1) = 1) (ci : CI E S G) (mi : MI E G) (rel : ∃ t : Tz, RelC S G x t ∧ RelM E G t) (hc : cs + 704 ≤ mc) (hq : ss + 6964 ≤ ms) (kk : ∀ (cs' ss' : Nat) (S' : Sg) (G' : Gh), cs' ≤ cs + 704 → ss' ≤ ss + 6964 → S' x = 128 → S' (Ad E 1) = 1 → CI E S' G' → MI E G' → (∃ t : Tz, RelC S' G' x t ∧ RelM E G' t) → X cs' ss' 1661 [] [(0, (2, (b : Int))), (1, (2, x)), (2, (2, Ad E 1)), (3, (0, i))] S' G') : X cs ss 967 [] [(0, (2, (b : Int))), (1, (2, x)), (2, (2, Ad E 1)), (3, (0, i))] S G := by
  have hP := hPL17
  obtain ⟨t, rc, rm⟩ := rel
  refine r_ex hX hP 5 (pc' := 972) (st' := [(0, (i + 1)), (2, (b : Int)), (2, x)]) (lo' := [(0, (2, (b : Int))), (1, (2, x)), (2, (2, Ad E 1)), (3, (0, i))]) rfl ?_
  refine scr_rd hs hP rfl (by first | decide | omega) (by first | decide | omega) ?_
  have bb2 := hs.1 (i + 1)
  refine r_callV gd hX hP rfl cv_L_92_128 hx (d' := 4) (mc' := 0) (ms' := 0) (as' := [(0, (sv (i + 1)))]) (st := []) (by first | decide | omega) (by first | decide | omega) (by first | decide | omega) rfl rfl (Nat.le_of_ble_eq_true rfl) (c_X11_bears E S G x (sv (i + 1)) hx (by first | decide | omega) (by first | decide | omega) ci) ?_
  rintro _ _ _ ⟨rfl, ⟨G3, rfl⟩, z1, rfl, z1a, z1b⟩
  have ci4 : CI E S (hw [(128, 0)] G G3) := ci_hw ci rfl
  have mi5 : MI E (hw [(128, 0)] G G3) := mi_hwL mi rfl
  have rc6 : RelC S (hw [(128, 0)] G G3) x t := relc_frm ci rc (frm_hw rfl)
  have rm7 : RelM E (hw [(128, 0)] G G3) t := relm_hwL rm rfl
  refine r_ex hX hP 6 (pc' := 982) (st' := [(0, (i + 1)), (2, (b : Int)), (2, Ad E 1)]) (lo' := [(0, (2, (b : Int))), (1, (2, x)), (2, (2, Ad E 1)), (3, (0, i))]) rfl ?_
  refine scr_rd hs hP rfl (by first | decide | omega) (by first | decide | omega) ?_
  have bb9 := hs.1 (i + 1)
  refine r_peekI hX (tl1 10 rfl (by decide)) hm (fun v10 v10e v10a v10b => ?_)
  refine r_peekI hX (tl1 6 rfl (by decide)) hm (fun v11 v11e v11a v11b => ?_)
  refine r_callV gd hX hP rfl cv_L_95_1 hm (d' := 2) (mc' := 0) (ms' := 0) (as' := [(0, (sv (i + 1)))]) (st := []) (by first | decide | omega) (by first | decide | omega) (by first | decide | omega) rfl rfl (Nat.le_of_ble_eq_true rfl) (c_X12_bears E S (hw [(128, 0)] G G3) (sv (i + 1)) hm v10 v10e v11 v11e (by first | decide | omega) (by first | decide | omega) mi5) ?_
  rintro _ _ _ ⟨rfl, ⟨G12, rfl⟩, z8, rfl, z8a, z8b⟩
  refine r_ex hX hP 2 (pc' := 1661) (st' := []) (lo' := [(0, (2, (b : Int))), (1, (2, x)), (2, (2, Ad E 1)), (3, (0, i))]) rfl ?_
  exact kk _ _ _ _ (by first | decide | omega) (by first | decide | omega) hx hm (ci_hvL ci4 rfl) (mi_keep mi5 rfl rfl rfl rfl rfl rfl (fun _ => rfl) (fun _ => rfl) (fun _ => rfl) (fun _ => rfl) (fun _ => rfl) (fun _ => rfl) (fun _ => rfl) (fun _ => rfl) (fun _ => rfl) (fun _ => rfl) (fun _ => rfl) (fun _ => rfl) (fun _ => rfl)) ⟨_, (relc_frm ci4 rc6 (frm_hv rfl rfl)), (relm_keep rm7 rfl rfl rfl rfl rfl rfl rfl rfl rfl rfl rfl rfl (fun _ => rfl) (fun _ => rfl) (fun _ => rfl) (fun _ => rfl) (fun _ => rfl) (fun _ => rfl) (fun _ => rfl) (fun _ => rfl) (fun _ => rfl))⟩
def PL18 : Cod := [(990, .aload_n 1, 1), (991, .aload_n 0, 1), (992, .iload_n 3, 1), (993, .iconst 1, 1), (994, .iadd, 1), (995, .iaload, 1), (996, .invokevirtual 96, 3), (999, .pop, 1), (1000, .aload_n 2, 1), (1001, .aload_n 0, 1), (1002, .iload_n 3, 1), (1003, .iconst 1, 1), (1004, .iadd, 1), (1005, .iaload, 1), (1006, .invokevirtual 99, 3), (1009, .pop, 1), (1010, .goto 651, 3)]
theorem hPL18 : Dec code PL18 := dec_of (by decide +kernel)
set_option maxRecDepth 100000 in
set_option maxHeartbeats 4000000 in
theorem law_18 {E : En} {nm : String} {as : List Vl} {mc ms : Nat} {Y : Option Vl → Sg → Gh → Prop} {X : Xp} {b L : Nat} {sv : Int → Int} (hX : Cl E (mL nm) as 840 mc ms Y X) (hs : Scr X b L sv) {cs ss : Nat} {S : Sg} {G : Gh} {x i : Int} (i0 : 0 ≤ i) (i1 : i + 8 ≤ L) (i2 : i ≤ 4096) (hx : S x = 128) (hm : S (Ad E 1) = 1) (ci : CI E S G) (mi : MI E G) (rel : ∃ t : Tz, RelC S G x t ∧ RelM E G t) (hc : cs + 704 ≤ mc) (hq : ss + 6964 ≤ ms) (kk : ∀ (cs' ss' : Nat) (S' : Sg) (G' : Gh), cs' ≤ cs + 704 → ss' ≤ ss + 6964 → S' x = 128 → S' (Ad E 1) = 1 → CI E S' G' → MI E G' → (∃ t : Tz, RelC S' G' x t ∧ RelM E G' t) → X cs' ss' 1661 [] [(0, (2, (b : Int))), (1, (2, x)), (2, (2, Ad E 1)), (3, (0, i))] S' G') : X cs ss 990 [] [(0, (2, (b : Int))), (1, (2, x)), (2, (2, Ad E 1)), (3, (0, i))] S G := by
  have hP := hPL18
  obtain ⟨t, rc, rm⟩ := rel
  refine r_ex hX hP 5 (pc' := 995) (st' := [(0, (i + 1)), (2, (b : Int)), (2, x)]) (lo' := [(0, (2, (b : Int))), (1, (2, x)), (2, (2, Ad E 1)), (3, (0, i))]) rfl ?_
  refine scr_rd hs hP rfl (by first | decide | omega) (by first | decide | omega) ?_
  have bb2 := hs.1 (i + 1)
  refine r_callV gd hX hP rfl cv_L_96_128 hx (d' := 7) (mc' := 0) (ms' := 0) (as' := [(0, (sv (i + 1)))]) (st := []) (by first | decide | omega) (by first | decide | omega) (by first | decide | omega) rfl rfl (Nat.le_of_ble_eq_true rfl) (c_X11_done E S G x (sv (i + 1)) hx (by first | decide | omega) (by first | decide | omega) ci) ?_
  rintro _ _ _ ⟨rfl, ⟨G3, rfl⟩, z1, rfl, z1a, z1b⟩
  have ci4 : CI E S (hw [(93, -1), (95, -1), (96, -1), (97, -1), (115, -1), (116, -1), (118, -1), (119, -1), (125, -1), (126, -1), (127, -1), (128, 0), (129, 1), (129, 2), (129, 15), (129, 16)] G G3) := ci_hw ci rfl
  have mi5 : MI E (hw [(93, -1), (95, -1), (96, -1), (97, -1), (115, -1), (116, -1), (118, -1), (119, -1), (125, -1), (126, -1), (127, -1), (128, 0), (129, 1), (129, 2), (129, 15), (129, 16)] G G3) := mi_hwL mi rfl
  have rc6 : RelC S (hw [(93, -1), (95, -1), (96, -1), (97, -1), (115, -1), (116, -1), (118, -1), (119, -1), (125, -1), (126, -1), (127, -1), (128, 0), (129, 1), (129, 2), (129, 15), (129, 16)] G G3) x t := relc_frm ci rc (frm_hw rfl)
  have rm7 : RelM E (hw [(93, -1), (95, -1), (96, -1), (97, -1), (115, -1), (116, -1), (118, -1), (119, -1), (125, -1), (126, -1), (127, -1), (128, 0), (129, 1), (129, 2), (129, 15), (129, 16)] G G3) t := relm_hwL rm rfl
  refine r_ex hX hP 6 (pc' := 1005) (st' := [(0, (i + 1)), (2, (b : Int)), (2, Ad E 1)]) (lo' := [(0, (2, (b : Int))), (1, (2, x)), (2, (2, Ad E 1)), (3, (0, i))]) rfl ?_
  refine scr_rd hs hP rfl (by first | decide | omega) (by first | decide | omega) ?_
  have bb9 := hs.1 (i + 1)
  refine r_callV gd hX hP rfl cv_L_99_1 hm (d' := 40) (mc' := 0) (ms' := 0) (as' := [(0, (sv (i + 1)))]) (st := []) (by first | decide | omega) (by first | decide | omega) (by first | decide | omega) rfl rfl (Nat.le_of_ble_eq_true rfl) (c_X12_done E S (hw [(93, -1), (95, -1), (96, -1), (97, -1), (115, -1), (116, -1), (118, -1), (119, -1), (125, -1), (126, -1), (127, -1), (128, 0), (129, 1), (129, 2), (129, 15), (129, 16)] G G3) (sv (i + 1)) hm (by first | decide | omega) (by first | decide | omega) mi5) ?_
  rintro _ _ _ ⟨rfl, ⟨G10, rfl⟩, z8, rfl, z8a, z8b⟩
  refine r_ex hX hP 2 (pc' := 1661) (st' := []) (lo' := [(0, (2, (b : Int))), (1, (2, x)), (2, (2, Ad E 1)), (3, (0, i))]) rfl ?_
  exact kk _ _ _ _ (by first | decide | omega) (by first | decide | omega) hx hm (ci_hvL ci4 rfl) (mi_keep mi5 rfl rfl rfl rfl rfl rfl (fun _ => rfl) (fun _ => rfl) (fun _ => rfl) (fun _ => rfl) (fun _ => rfl) (fun _ => rfl) (fun _ => rfl) (fun _ => rfl) (fun _ => rfl) (fun _ => rfl) (fun _ => rfl) (fun _ => rfl) (fun _ => rfl)) ⟨_, (relc_frm ci4 rc6 (frm_hv rfl rfl)), (relm_keep rm7 rfl rfl rfl rfl rfl rfl rfl rfl rfl rfl rfl rfl (fun _ => rfl) (fun _ => rfl) (fun _ => rfl) (fun _ => rfl) (fun _ => rfl) (fun _ => rfl) (fun _ => rfl) (fun _ => rfl) (fun _ => rfl))⟩
def PL19 : Cod := [(1013, .aload_n 1, 1), (1014, .aload_n 0, 1), (1015, .iload_n 3, 1), (1016, .iconst 1, 1), (1017, .iadd, 1), (1018, .iaload, 1), (1019, .aload_n 0, 1), (1020, .iload_n 3, 1), (1021, .iconst 2, 1), (1022, .iadd, 1), (1023, .iaload, 1), (1024, .aload_n 0, 1), (1025, .iload_n 3, 1), (1026, .iconst 3, 1), (1027, .iadd, 1), (1028, .iaload, 1), (1029, .invokevirtual 100, 3), (1032, .pop2, 1), (1033, .aload_n 2, 1), (1034, .aload_n 0, 1), (1035, .iload_n 3, 1), (1036, .iconst 1, 1), (1037, .iadd, 1), (1038, .iaload, 1), (1039, .aload_n 0, 1), (1040, .iload_n 3, 1), (1041, .iconst 2, 1), (1042, .iadd, 1), (1043, .iaload, 1), (1044, .aload_n 0, 1), (1045, .iload_n 3, 1), (1046, .iconst 3, 1), (1047, .iadd, 1), (1048, .iaload, 1), (1049, .invokevirtual 103, 3), (1052, .pop2, 1), (1053, .goto 608, 3)]
theorem hPL19 : Dec code PL19 := dec_of (by decide +kernel)
set_option maxRecDepth 100000 in
set_option maxHeartbeats 4000000 in
theorem law_19 {E : En} {nm : String} {as : List Vl} {mc ms : Nat} {Y : Option Vl → Sg → Gh → Prop} {X : Xp} {b L : Nat} {sv : Int → Int} (hX : Cl E (mL nm) as 840 mc ms Y X) (hs : Scr X b L sv) {cs ss : Nat} {S : Sg} {G : Gh} {x i : Int} (i0 : 0 ≤ i) (i1 : i + 8 ≤ L) (i2 : i ≤ 4096) (hx : S x = 128) (hm : S (Ad E 1) = 1) (ci : CI E S G) (mi : MI E G) (rel : ∃ t : Tz, RelC S G x t ∧ RelM E G t) (hc : cs + 704 ≤ mc) (hq : ss + 6964 ≤ ms) (kk : ∀ (cs' ss' : Nat) (S' : Sg) (G' : Gh), cs' ≤ cs + 704 → ss' ≤ ss + 6964 → S' x = 128 → S' (Ad E 1) = 1 → CI E S' G' → MI E G' → (∃ t : Tz, RelC S' G' x t ∧ RelM E G' t) → X cs' ss' 1661 [] [(0, (2, (b : Int))), (1, (2, x)), (2, (2, Ad E 1)), (3, (0, i))] S' G') : X cs ss 1013 [] [(0, (2, (b : Int))), (1, (2, x)), (2, (2, Ad E 1)), (3, (0, i))] S G := by
  have hP := hPL19
  obtain ⟨t, rc, rm⟩ := rel
  refine r_ex hX hP 5 (pc' := 1018) (st' := [(0, (i + 1)), (2, (b : Int)), (2, x)]) (lo' := [(0, (2, (b : Int))), (1, (2, x)), (2, (2, Ad E 1)), (3, (0, i))]) rfl ?_
  refine scr_rd hs hP rfl (by first | decide | omega) (by first | decide | omega) ?_
  refine r_ex hX hP 4 (pc' := 1023) (st' := [(0, (i + 2)), (2, (b : Int)), (0, (sv (i + 1))), (2, x)]) (lo' := [(0, (2, (b : Int))), (1, (2, x)), (2, (2, Ad E 1)), (3, (0, i))]) rfl ?_
  refine scr_rd hs hP rfl (by first | decide | omega) (by first | decide | omega) ?_
  refine r_ex hX hP 4 (pc' := 1028) (st' := [(0, (i + 3)), (2, (b : Int)), (0, (sv (i + 2))), (0, (sv (i + 1))), (2, x)]) (lo' := [(0, (2, (b : Int))), (1, (2, x)), (2, (2, Ad E 1)), (3, (0, i))]) rfl ?_
  refine scr_rd hs hP rfl (by first | decide | omega) (by first | decide | omega) ?_
  have bb2 := hs.1 (i + 1)
  have bb3 := hs.1 (i + 2)
  have bb4 := hs.1 (i + 3)
  refine r_peekR hX (tl_128 7 rfl (by decide)) hx (fun v5 v5e v5s => ?_)
  refine r_peekI hX (tl_155 2 rfl (by decide)) v5s (fun v6 v6e v6a v6b => ?_)
  refine r_peekR hX (tl_128 8 rfl (by decide)) hx (fun v7 v7e v7s => ?_)
  refine r_peekI hX (tl_156 2 rfl (by decide)) v7s (fun v8 v8e v8a v8b => ?_)
  refine r_adl hX hm (fun ad9 => ?_)
  refine r_callV gd hX hP rfl cv_L_100_128 hx (d' := 9) (mc' := 704) (ms' := 6964) (as' := [(0, (sv (i + 1))), (0, (sv (i + 2))), (0, (sv (i + 3)))]) (st := []) (by first | decide | omega) (by first | decide | omega) (by first | decide | omega) rfl rfl (Nat.le_of_ble_eq_true rfl) (c_X11_due E S G x (sv (i + 1)) (sv (i + 2)) (sv (i + 3)) hx v5 v5e v5s v6 v6e v7 v7e v7s v8 v8e (by first | decide | omega) (by first | decide | omega) (by first | decide | omega) (by first | decide | omega) (by first | decide | omega) (by first | decide | omega) ci) ?_
  rintro _ S10 G11 ⟨g12, z1, rfl, z1a, z1b, ci13⟩
  have hx15 := gr_lab g12 hx (by decide)
  have hm16 := gr_lab g12 hm (by decide)
  have mi14 := mi_gr mi hm ad9 g12 rfl
  have rc17 := relc_frm ci rc (frm_gr g12 rfl)
  have rm18 := relm_gr rm hm ad9 g12 rfl
  refine r_ex hX hP 6 (pc' := 1038) (st' := [(0, (i + 1)), (2, (b : Int)), (2, Ad E 1)]) (lo' := [(0, (2, (b : Int))), (1, (2, x)), (2, (2, Ad E 1)), (3, (0, i))]) rfl ?_
  refine scr_rd hs hP rfl (by first | decide | omega) (by first | decide | omega) ?_
  refine r_ex hX hP 4 (pc' := 1043) (st' := [(0, (i + 2)), (2, (b : Int)), (0, (sv (i + 1))), (2, Ad E 1)]) (lo' := [(0, (2, (b : Int))), (1, (2, x)), (2, (2, Ad E 1)), (3, (0, i))]) rfl ?_
  refine scr_rd hs hP rfl (by first | decide | omega) (by first | decide | omega) ?_
  refine r_ex hX hP 4 (pc' := 1048) (st' := [(0, (i + 3)), (2, (b : Int)), (0, (sv (i + 2))), (0, (sv (i + 1))), (2, Ad E 1)]) (lo' := [(0, (2, (b : Int))), (1, (2, x)), (2, (2, Ad E 1)), (3, (0, i))]) rfl ?_
  refine scr_rd hs hP rfl (by first | decide | omega) (by first | decide | omega) ?_
  have bb20 := hs.1 (i + 1)
  have bb21 := hs.1 (i + 2)
  have bb22 := hs.1 (i + 3)
  refine r_callV gd hX hP rfl cv_L_103_1 hm16 (d' := 40) (mc' := 0) (ms' := 0) (as' := [(0, (sv (i + 1))), (0, (sv (i + 2))), (0, (sv (i + 3)))]) (st := []) (by first | decide | omega) (by first | decide | omega) (by first | decide | omega) rfl rfl (Nat.le_of_ble_eq_true rfl) (c_X12_due E S10 G11 (sv (i + 1)) (sv (i + 2)) (sv (i + 3)) hm16 (by first | decide | omega) (by first | decide | omega) (by first | decide | omega) (by first | decide | omega) (by first | decide | omega) (by first | decide | omega) mi14) ?_
  rintro _ _ _ ⟨rfl, ⟨G23, rfl⟩, z19, rfl, z19a, z19b⟩
  refine r_ex hX hP 2 (pc' := 1661) (st' := []) (lo' := [(0, (2, (b : Int))), (1, (2, x)), (2, (2, Ad E 1)), (3, (0, i))]) rfl ?_
  exact kk _ _ _ _ (by first | decide | omega) (by first | decide | omega) hx15 hm16 (ci_hvL ci13 rfl) (mi_keep mi14 rfl rfl rfl rfl rfl rfl (fun _ => rfl) (fun _ => rfl) (fun _ => rfl) (fun _ => rfl) (fun _ => rfl) (fun _ => rfl) (fun _ => rfl) (fun _ => rfl) (fun _ => rfl) (fun _ => rfl) (fun _ => rfl) (fun _ => rfl) (fun _ => rfl)) ⟨_, (relc_frm ci13 rc17 (frm_hv rfl rfl)), (relm_keep rm18 rfl rfl rfl rfl rfl rfl rfl rfl rfl rfl rfl rfl (fun _ => rfl) (fun _ => rfl) (fun _ => rfl) (fun _ => rfl) (fun _ => rfl) (fun _ => rfl) (fun _ => rfl) (fun _ => rfl) (fun _ => rfl))⟩
def PL20 : Cod := [(1056, .aload_n 1, 1), (1057, .aload_n 0, 1), (1058, .iload_n 3, 1), (1059, .iconst 1, 1), (1060, .iadd, 1), (1061, .iaload, 1), (1062, .aload_n 0, 1), (1063, .iload_n 3, 1), (1064, .iconst 2, 1), (1065, .iadd, 1), (1066, .iaload, 1), (1067, .aload_n 0, 1), (1068, .iload_n 3, 1), (1069, .iconst 3, 1), (1070, .iadd, 1), (1071, .iaload, 1), (1072, .aload_n 0, 1), (1073, .iload_n 3, 1), (1074, .iconst 4, 1), (1075, .iadd, 1), (1076, .iaload, 1), (1077, .aload_n 0, 1), (1078, .iload_n 3, 1), (1079, .iconst 5, 1), (1080, .iadd, 1), (1081, .iaload, 1), (1082, .invokevirtual 104, 3), (1085, .pop, 1), (1086, .aload_n 2, 1), (1087, .aload_n 0, 1), (1088, .iload_n 3, 1), (1089, .iconst 1, 1), (1090, .iadd, 1), (1091, .iaload, 1), (1092, .aload_n 0, 1), (1093, .iload_n 3, 1), (1094, .iconst 2, 1), (1095, .iadd, 1), (1096, .iaload, 1), (1097, .aload_n 0, 1), (1098, .iload_n 3, 1), (1099, .iconst 3, 1), (1100, .iadd, 1), (1101, .iaload, 1), (1102, .aload_n 0, 1), (1103, .iload_n 3, 1), (1104, .iconst 4, 1), (1105, .iadd, 1), (1106, .iaload, 1), (1107, .aload_n 0, 1), (1108, .iload_n 3, 1), (1109, .iconst 5, 1), (1110, .iadd, 1), (1111, .iaload, 1), (1112, .invokevirtual 107, 3), (1115, .pop, 1), (1116, .goto 545, 3)]
theorem hPL20 : Dec code PL20 := dec_of (by decide +kernel)
set_option maxRecDepth 100000 in
set_option maxHeartbeats 4000000 in
theorem law_20 {E : En} {nm : String} {as : List Vl} {mc ms : Nat} {Y : Option Vl → Sg → Gh → Prop} {X : Xp} {b L : Nat} {sv : Int → Int} (hX : Cl E (mL nm) as 840 mc ms Y X) (hs : Scr X b L sv) {cs ss : Nat} {S : Sg} {G : Gh} {x i : Int} (i0 : 0 ≤ i) (i1 : i + 8 ≤ L) (i2 : i ≤ 4096) (hx : S x = 128) (hm : S (Ad E 1) = 1) (ci : CI E S G) (mi : MI E G) (rel : ∃ t : Tz, RelC S G x t ∧ RelM E G t) (hc : cs + 704 ≤ mc) (hq : ss + 6964 ≤ ms) (kk : ∀ (cs' ss' : Nat) (S' : Sg) (G' : Gh), cs' ≤ cs + 704 → ss' ≤ ss + 6964 → S' x = 128 → S' (Ad E 1) = 1 → CI E S' G' → MI E G' → (∃ t : Tz, RelC S' G' x t ∧ RelM E G' t) → X cs' ss' 1661 [] [(0, (2, (b : Int))), (1, (2, x)), (2, (2, Ad E 1)), (3, (0, i))] S' G') : X cs ss 1056 [] [(0, (2, (b : Int))), (1, (2, x)), (2, (2, Ad E 1)), (3, (0, i))] S G := by
  have hP := hPL20
  obtain ⟨t, rc, rm⟩ := rel
  refine r_ex hX hP 5 (pc' := 1061) (st' := [(0, (i + 1)), (2, (b : Int)), (2, x)]) (lo' := [(0, (2, (b : Int))), (1, (2, x)), (2, (2, Ad E 1)), (3, (0, i))]) rfl ?_
  refine scr_rd hs hP rfl (by first | decide | omega) (by first | decide | omega) ?_
  refine r_ex hX hP 4 (pc' := 1066) (st' := [(0, (i + 2)), (2, (b : Int)), (0, (sv (i + 1))), (2, x)]) (lo' := [(0, (2, (b : Int))), (1, (2, x)), (2, (2, Ad E 1)), (3, (0, i))]) rfl ?_
  refine scr_rd hs hP rfl (by first | decide | omega) (by first | decide | omega) ?_
  refine r_ex hX hP 4 (pc' := 1071) (st' := [(0, (i + 3)), (2, (b : Int)), (0, (sv (i + 2))), (0, (sv (i + 1))), (2, x)]) (lo' := [(0, (2, (b : Int))), (1, (2, x)), (2, (2, Ad E 1)), (3, (0, i))]) rfl ?_
  refine scr_rd hs hP rfl (by first | decide | omega) (by first | decide | omega) ?_
  refine r_ex hX hP 4 (pc' := 1076) (st' := [(0, (i + 4)), (2, (b : Int)), (0, (sv (i + 3))), (0, (sv (i + 2))), (0, (sv (i + 1))), (2, x)]) (lo' := [(0, (2, (b : Int))), (1, (2, x)), (2, (2, Ad E 1)), (3, (0, i))]) rfl ?_
  refine scr_rd hs hP rfl (by first | decide | omega) (by first | decide | omega) ?_
  refine r_ex hX hP 4 (pc' := 1081) (st' := [(0, (i + 5)), (2, (b : Int)), (0, (sv (i + 4))), (0, (sv (i + 3))), (0, (sv (i + 2))), (0, (sv (i + 1))), (2, x)]) (lo' := [(0, (2, (b : Int))), (1, (2, x)), (2, (2, Ad E 1)), (3, (0, i))]) rfl ?_
  refine scr_rd hs hP rfl (by first | decide | omega) (by first | decide | omega) ?_
  have bb2 := hs.1 (i + 1)
  have bb3 := hs.1 (i + 2)
  have bb4 := hs.1 (i + 3)
  have bb5 := hs.1 (i + 4)
  have bb6 := hs.1 (i + 5)
  refine r_adl hX hm (fun ad7 => ?_)
  refine r_callV gd hX hP rfl cv_L_104_128 hx (d' := 15) (mc' := 2) (ms' := 82) (as' := [(0, (sv (i + 1))), (0, (sv (i + 2))), (0, (sv (i + 3))), (0, (sv (i + 4))), (0, (sv (i + 5)))]) (st := []) (by first | decide | omega) (by first | decide | omega) (by first | decide | omega) rfl rfl (Nat.le_of_ble_eq_true rfl) (k_option E S G x (sv (i + 1)) (sv (i + 2)) (sv (i + 3)) (sv (i + 4)) (sv (i + 5)) hx (by first | decide | omega) (by first | decide | omega) (by first | decide | omega) (by first | decide | omega) (by first | decide | omega) (by first | decide | omega) (by first | decide | omega) (by first | decide | omega) (by first | decide | omega) (by first | decide | omega) ci t rc) ?_
  rintro _ S10 G11 ⟨g12, rc8, z1, rfl, z1a, z1b, z1v, ci13⟩
  have hx15 := gr_lab g12 hx (by decide)
  have hm16 := gr_lab g12 hm (by decide)
  have mi14 := mi_gr mi hm ad7 g12 rfl
  have rm9 := relm_gr rm hm ad7 g12 rfl
  refine r_ex hX hP 6 (pc' := 1091) (st' := [(0, (i + 1)), (2, (b : Int)), (2, Ad E 1)]) (lo' := [(0, (2, (b : Int))), (1, (2, x)), (2, (2, Ad E 1)), (3, (0, i))]) rfl ?_
  refine scr_rd hs hP rfl (by first | decide | omega) (by first | decide | omega) ?_
  refine r_ex hX hP 4 (pc' := 1096) (st' := [(0, (i + 2)), (2, (b : Int)), (0, (sv (i + 1))), (2, Ad E 1)]) (lo' := [(0, (2, (b : Int))), (1, (2, x)), (2, (2, Ad E 1)), (3, (0, i))]) rfl ?_
  refine scr_rd hs hP rfl (by first | decide | omega) (by first | decide | omega) ?_
  refine r_ex hX hP 4 (pc' := 1101) (st' := [(0, (i + 3)), (2, (b : Int)), (0, (sv (i + 2))), (0, (sv (i + 1))), (2, Ad E 1)]) (lo' := [(0, (2, (b : Int))), (1, (2, x)), (2, (2, Ad E 1)), (3, (0, i))]) rfl ?_
  refine scr_rd hs hP rfl (by first | decide | omega) (by first | decide | omega) ?_
  refine r_ex hX hP 4 (pc' := 1106) (st' := [(0, (i + 4)), (2, (b : Int)), (0, (sv (i + 3))), (0, (sv (i + 2))), (0, (sv (i + 1))), (2, Ad E 1)]) (lo' := [(0, (2, (b : Int))), (1, (2, x)), (2, (2, Ad E 1)), (3, (0, i))]) rfl ?_
  refine scr_rd hs hP rfl (by first | decide | omega) (by first | decide | omega) ?_
  refine r_ex hX hP 4 (pc' := 1111) (st' := [(0, (i + 5)), (2, (b : Int)), (0, (sv (i + 4))), (0, (sv (i + 3))), (0, (sv (i + 2))), (0, (sv (i + 1))), (2, Ad E 1)]) (lo' := [(0, (2, (b : Int))), (1, (2, x)), (2, (2, Ad E 1)), (3, (0, i))]) rfl ?_
  refine scr_rd hs hP rfl (by first | decide | omega) (by first | decide | omega) ?_
  have bb18 := hs.1 (i + 1)
  have bb19 := hs.1 (i + 2)
  have bb20 := hs.1 (i + 3)
  have bb21 := hs.1 (i + 4)
  have bb22 := hs.1 (i + 5)
  refine r_callV gd hX hP rfl cv_L_107_1 hm16 (d' := 2) (mc' := 0) (ms' := 0) (as' := [(0, (sv (i + 1))), (0, (sv (i + 2))), (0, (sv (i + 3))), (0, (sv (i + 4))), (0, (sv (i + 5)))]) (st := []) (by first | decide | omega) (by first | decide | omega) (by first | decide | omega) rfl rfl (Nat.le_of_ble_eq_true rfl) (l_option E S10 G11 (sv (i + 1)) (sv (i + 2)) (sv (i + 3)) (sv (i + 4)) (sv (i + 5)) hm16 (by first | decide | omega) (by first | decide | omega) (by first | decide | omega) (by first | decide | omega) (by first | decide | omega) (by first | decide | omega) (by first | decide | omega) (by first | decide | omega) (by first | decide | omega) (by first | decide | omega) mi14 t rm9) ?_
  rintro _ _ _ ⟨rfl, ⟨G26, rfl⟩, z17, rfl, z17a, z17b, z17v, rm24, mi25⟩
  refine r_ex hX hP 2 (pc' := 1661) (st' := []) (lo' := [(0, (2, (b : Int))), (1, (2, x)), (2, (2, Ad E 1)), (3, (0, i))]) rfl ?_
  exact kk _ _ _ _ (by first | decide | omega) (by first | decide | omega) hx15 hm16 (ci_hvL ci13 rfl) mi25 ⟨_, (relc_frm ci13 rc8 (frm_hv rfl rfl)), rm24⟩
def PL21 : Cod := [(1119, .aload_n 1, 1), (1120, .aload_n 0, 1), (1121, .iload_n 3, 1), (1122, .iconst 1, 1), (1123, .iadd, 1), (1124, .iaload, 1), (1125, .aload_n 0, 1), (1126, .iload_n 3, 1), (1127, .iconst 2, 1), (1128, .iadd, 1), (1129, .iaload, 1), (1130, .invokevirtual 108, 3), (1133, .pop, 1), (1134, .aload_n 2, 1), (1135, .aload_n 0, 1), (1136, .iload_n 3, 1), (1137, .iconst 1, 1), (1138, .iadd, 1), (1139, .iaload, 1), (1140, .aload_n 0, 1), (1141, .iload_n 3, 1), (1142, .iconst 2, 1), (1143, .iadd, 1), (1144, .iaload, 1), (1145, .invokevirtual 111, 3), (1148, .pop, 1), (1149, .goto 512, 3)]
theorem hPL21 : Dec code PL21 := dec_of (by decide +kernel)
set_option maxRecDepth 100000 in
set_option maxHeartbeats 4000000 in
theorem law_21 {E : En} {nm : String} {as : List Vl} {mc ms : Nat} {Y : Option Vl → Sg → Gh → Prop} {X : Xp} {b L : Nat} {sv : Int → Int} (hX : Cl E (mL nm) as 840 mc ms Y X) (hs : Scr X b L sv) {cs ss : Nat} {S : Sg} {G : Gh} {x i : Int} (i0 : 0 ≤ i) (i1 : i + 8 ≤ L) (i2 : i ≤ 4096) (hx : S x = 128) (hm : S (Ad E 1) = 1) (ci : CI E S G) (mi : MI E G) (rel : ∃ t : Tz, RelC S G x t ∧ RelM E G t) (hc : cs + 704 ≤ mc) (hq : ss + 6964 ≤ ms) (kk : ∀ (cs' ss' : Nat) (S' : Sg) (G' : Gh), cs' ≤ cs + 704 → ss' ≤ ss + 6964 → S' x = 128 → S' (Ad E 1) = 1 → CI E S' G' → MI E G' → (∃ t : Tz, RelC S' G' x t ∧ RelM E G' t) → X cs' ss' 1661 [] [(0, (2, (b : Int))), (1, (2, x)), (2, (2, Ad E 1)), (3, (0, i))] S' G') : X cs ss 1119 [] [(0, (2, (b : Int))), (1, (2, x)), (2, (2, Ad E 1)), (3, (0, i))] S G := by
  have hP := hPL21
  obtain ⟨t, rc, rm⟩ := rel
  refine r_ex hX hP 5 (pc' := 1124) (st' := [(0, (i + 1)), (2, (b : Int)), (2, x)]) (lo' := [(0, (2, (b : Int))), (1, (2, x)), (2, (2, Ad E 1)), (3, (0, i))]) rfl ?_
  refine scr_rd hs hP rfl (by first | decide | omega) (by first | decide | omega) ?_
  refine r_ex hX hP 4 (pc' := 1129) (st' := [(0, (i + 2)), (2, (b : Int)), (0, (sv (i + 1))), (2, x)]) (lo' := [(0, (2, (b : Int))), (1, (2, x)), (2, (2, Ad E 1)), (3, (0, i))]) rfl ?_
  refine scr_rd hs hP rfl (by first | decide | omega) (by first | decide | omega) ?_
  have bb2 := hs.1 (i + 1)
  have bb3 := hs.1 (i + 2)
  refine r_callV gd hX hP rfl cv_L_108_128 hx (d' := 8) (mc' := 0) (ms' := 0) (as' := [(0, (sv (i + 1))), (0, (sv (i + 2)))]) (st := []) (by first | decide | omega) (by first | decide | omega) (by first | decide | omega) rfl rfl (Nat.le_of_ble_eq_true rfl) (c_X11_optionOn E S G x (sv (i + 1)) (sv (i + 2)) hx (by first | decide | omega) (by first | decide | omega) (by first | decide | omega) (by first | decide | omega) ci) ?_
  rintro _ _ _ ⟨rfl, ⟨G4, rfl⟩, z1, rfl, z1a, z1b⟩
  have ci5 : CI E S (hw [(99, -1), (128, 0), (128, 2), (134, 0), (134, 1), (134, 2)] G G4) := ci_hw ci rfl
  have mi6 : MI E (hw [(99, -1), (128, 0), (128, 2), (134, 0), (134, 1), (134, 2)] G G4) := mi_hwL mi rfl
  have rc7 : RelC S (hw [(99, -1), (128, 0), (128, 2), (134, 0), (134, 1), (134, 2)] G G4) x t := relc_frm ci rc (frm_hw rfl)
  have rm8 : RelM E (hw [(99, -1), (128, 0), (128, 2), (134, 0), (134, 1), (134, 2)] G G4) t := relm_hwL rm rfl
  refine r_ex hX hP 6 (pc' := 1139) (st' := [(0, (i + 1)), (2, (b : Int)), (2, Ad E 1)]) (lo' := [(0, (2, (b : Int))), (1, (2, x)), (2, (2, Ad E 1)), (3, (0, i))]) rfl ?_
  refine scr_rd hs hP rfl (by first | decide | omega) (by first | decide | omega) ?_
  refine r_ex hX hP 4 (pc' := 1144) (st' := [(0, (i + 2)), (2, (b : Int)), (0, (sv (i + 1))), (2, Ad E 1)]) (lo' := [(0, (2, (b : Int))), (1, (2, x)), (2, (2, Ad E 1)), (3, (0, i))]) rfl ?_
  refine scr_rd hs hP rfl (by first | decide | omega) (by first | decide | omega) ?_
  have bb10 := hs.1 (i + 1)
  have bb11 := hs.1 (i + 2)
  refine r_callV gd hX hP rfl cv_L_111_1 hm (d' := 8) (mc' := 0) (ms' := 0) (as' := [(0, (sv (i + 1))), (0, (sv (i + 2)))]) (st := []) (by first | decide | omega) (by first | decide | omega) (by first | decide | omega) rfl rfl (Nat.le_of_ble_eq_true rfl) (c_X12_optionOn E S (hw [(99, -1), (128, 0), (128, 2), (134, 0), (134, 1), (134, 2)] G G4) (sv (i + 1)) (sv (i + 2)) hm (by first | decide | omega) (by first | decide | omega) (by first | decide | omega) (by first | decide | omega) mi6) ?_
  rintro _ _ _ ⟨rfl, ⟨G12, rfl⟩, z9, rfl, z9a, z9b⟩
  refine r_ex hX hP 2 (pc' := 1661) (st' := []) (lo' := [(0, (2, (b : Int))), (1, (2, x)), (2, (2, Ad E 1)), (3, (0, i))]) rfl ?_
  exact kk _ _ _ _ (by first | decide | omega) (by first | decide | omega) hx hm (ci_hvL ci5 rfl) (mi_keep mi6 rfl rfl rfl rfl rfl rfl (fun _ => rfl) (fun _ => rfl) (fun _ => rfl) (fun _ => rfl) (fun _ => rfl) (fun _ => rfl) (fun _ => rfl) (fun _ => rfl) (fun _ => rfl) (fun _ => rfl) (fun _ => rfl) (fun _ => rfl) (fun _ => rfl)) ⟨_, (relc_frm ci5 rc7 (frm_hv rfl rfl)), (relm_keep rm8 rfl rfl rfl rfl rfl rfl rfl rfl rfl rfl rfl rfl (fun _ => rfl) (fun _ => rfl) (fun _ => rfl) (fun _ => rfl) (fun _ => rfl) (fun _ => rfl) (fun _ => rfl) (fun _ => rfl) (fun _ => rfl))⟩
def PL22 : Cod := [(1152, .aload_n 1, 1), (1153, .aload_n 0, 1), (1154, .iload_n 3, 1), (1155, .iconst 1, 1), (1156, .iadd, 1), (1157, .iaload, 1), (1158, .aload_n 0, 1), (1159, .iload_n 3, 1), (1160, .iconst 2, 1), (1161, .iadd, 1), (1162, .iaload, 1), (1163, .aload_n 0, 1), (1164, .iload_n 3, 1), (1165, .iconst 3, 1), (1166, .iadd, 1), (1167, .iaload, 1), (1168, .invokevirtual 112, 3), (1171, .pop, 1), (1172, .aload_n 2, 1), (1173, .aload_n 0, 1), (1174, .iload_n 3, 1), (1175, .iconst 1, 1), (1176, .iadd, 1), (1177, .iaload, 1), (1178, .aload_n 0, 1), (1179, .iload_n 3, 1), (1180, .iconst 2, 1), (1181, .iadd, 1), (1182, .iaload, 1), (1183, .aload_n 0, 1), (1184, .iload_n 3, 1), (1185, .iconst 3, 1), (1186, .iadd, 1), (1187, .iaload, 1), (1188, .invokevirtual 115, 3), (1191, .pop, 1), (1192, .goto 469, 3)]
theorem hPL22 : Dec code PL22 := dec_of (by decide +kernel)
set_option maxRecDepth 100000 in
set_option maxHeartbeats 4000000 in
theorem law_22 {E : En} {nm : String} {as : List Vl} {mc ms : Nat} {Y : Option Vl → Sg → Gh → Prop} {X : Xp} {b L : Nat} {sv : Int → Int} (hX : Cl E (mL nm) as 840 mc ms Y X) (hs : Scr X b L sv) {cs ss : Nat} {S : Sg} {G : Gh} {x i : Int} (i0 : 0 ≤ i) (i1 : i + 8 ≤ L) (i2 : i ≤ 4096) (hx : S x = 128) (hm : S (Ad E 1) = 1) (ci : CI E S G) (mi : MI E G) (rel : ∃ t : Tz, RelC S G x t ∧ RelM E G t) (hc : cs + 704 ≤ mc) (hq : ss + 6964 ≤ ms) (kk : ∀ (cs' ss' : Nat) (S' : Sg) (G' : Gh), cs' ≤ cs + 704 → ss' ≤ ss + 6964 → S' x = 128 → S' (Ad E 1) = 1 → CI E S' G' → MI E G' → (∃ t : Tz, RelC S' G' x t ∧ RelM E G' t) → X cs' ss' 1661 [] [(0, (2, (b : Int))), (1, (2, x)), (2, (2, Ad E 1)), (3, (0, i))] S' G') : X cs ss 1152 [] [(0, (2, (b : Int))), (1, (2, x)), (2, (2, Ad E 1)), (3, (0, i))] S G := by
  have hP := hPL22
  obtain ⟨t, rc, rm⟩ := rel
  refine r_ex hX hP 5 (pc' := 1157) (st' := [(0, (i + 1)), (2, (b : Int)), (2, x)]) (lo' := [(0, (2, (b : Int))), (1, (2, x)), (2, (2, Ad E 1)), (3, (0, i))]) rfl ?_
  refine scr_rd hs hP rfl (by first | decide | omega) (by first | decide | omega) ?_
  refine r_ex hX hP 4 (pc' := 1162) (st' := [(0, (i + 2)), (2, (b : Int)), (0, (sv (i + 1))), (2, x)]) (lo' := [(0, (2, (b : Int))), (1, (2, x)), (2, (2, Ad E 1)), (3, (0, i))]) rfl ?_
  refine scr_rd hs hP rfl (by first | decide | omega) (by first | decide | omega) ?_
  refine r_ex hX hP 4 (pc' := 1167) (st' := [(0, (i + 3)), (2, (b : Int)), (0, (sv (i + 2))), (0, (sv (i + 1))), (2, x)]) (lo' := [(0, (2, (b : Int))), (1, (2, x)), (2, (2, Ad E 1)), (3, (0, i))]) rfl ?_
  refine scr_rd hs hP rfl (by first | decide | omega) (by first | decide | omega) ?_
  have bb2 := hs.1 (i + 1)
  have bb3 := hs.1 (i + 2)
  have bb4 := hs.1 (i + 3)
  refine r_callV gd hX hP rfl cv_L_112_128 hx (d' := 8) (mc' := 0) (ms' := 0) (as' := [(0, (sv (i + 1))), (0, (sv (i + 2))), (0, (sv (i + 3)))]) (st := []) (by first | decide | omega) (by first | decide | omega) (by first | decide | omega) rfl rfl (Nat.le_of_ble_eq_true rfl) (c_X11_term E S G x (sv (i + 1)) (sv (i + 2)) (sv (i + 3)) hx (by first | decide | omega) (by first | decide | omega) (by first | decide | omega) (by first | decide | omega) (by first | decide | omega) (by first | decide | omega) ci) ?_
  rintro _ _ _ ⟨rfl, ⟨G5, rfl⟩, z1, rfl, z1a, z1b⟩
  have ci6 : CI E S (hw [(99, -1), (128, 0), (128, 2), (128, 3), (128, 4), (134, 0), (134, 1), (134, 2)] G G5) := ci_hw ci rfl
  have mi7 : MI E (hw [(99, -1), (128, 0), (128, 2), (128, 3), (128, 4), (134, 0), (134, 1), (134, 2)] G G5) := mi_hwL mi rfl
  have rc8 : RelC S (hw [(99, -1), (128, 0), (128, 2), (128, 3), (128, 4), (134, 0), (134, 1), (134, 2)] G G5) x t := relc_frm ci rc (frm_hw rfl)
  have rm9 : RelM E (hw [(99, -1), (128, 0), (128, 2), (128, 3), (128, 4), (134, 0), (134, 1), (134, 2)] G G5) t := relm_hwL rm rfl
  refine r_ex hX hP 6 (pc' := 1177) (st' := [(0, (i + 1)), (2, (b : Int)), (2, Ad E 1)]) (lo' := [(0, (2, (b : Int))), (1, (2, x)), (2, (2, Ad E 1)), (3, (0, i))]) rfl ?_
  refine scr_rd hs hP rfl (by first | decide | omega) (by first | decide | omega) ?_
  refine r_ex hX hP 4 (pc' := 1182) (st' := [(0, (i + 2)), (2, (b : Int)), (0, (sv (i + 1))), (2, Ad E 1)]) (lo' := [(0, (2, (b : Int))), (1, (2, x)), (2, (2, Ad E 1)), (3, (0, i))]) rfl ?_
  refine scr_rd hs hP rfl (by first | decide | omega) (by first | decide | omega) ?_
  refine r_ex hX hP 4 (pc' := 1187) (st' := [(0, (i + 3)), (2, (b : Int)), (0, (sv (i + 2))), (0, (sv (i + 1))), (2, Ad E 1)]) (lo' := [(0, (2, (b : Int))), (1, (2, x)), (2, (2, Ad E 1)), (3, (0, i))]) rfl ?_
  refine scr_rd hs hP rfl (by first | decide | omega) (by first | decide | omega) ?_
  have bb11 := hs.1 (i + 1)
  have bb12 := hs.1 (i + 2)
  have bb13 := hs.1 (i + 3)
  refine r_callV gd hX hP rfl cv_L_115_1 hm (d' := 8) (mc' := 0) (ms' := 0) (as' := [(0, (sv (i + 1))), (0, (sv (i + 2))), (0, (sv (i + 3)))]) (st := []) (by first | decide | omega) (by first | decide | omega) (by first | decide | omega) rfl rfl (Nat.le_of_ble_eq_true rfl) (c_X12_term E S (hw [(99, -1), (128, 0), (128, 2), (128, 3), (128, 4), (134, 0), (134, 1), (134, 2)] G G5) (sv (i + 1)) (sv (i + 2)) (sv (i + 3)) hm (by first | decide | omega) (by first | decide | omega) (by first | decide | omega) (by first | decide | omega) (by first | decide | omega) (by first | decide | omega) mi7) ?_
  rintro _ _ _ ⟨rfl, ⟨G14, rfl⟩, z10, rfl, z10a, z10b⟩
  refine r_ex hX hP 2 (pc' := 1661) (st' := []) (lo' := [(0, (2, (b : Int))), (1, (2, x)), (2, (2, Ad E 1)), (3, (0, i))]) rfl ?_
  exact kk _ _ _ _ (by first | decide | omega) (by first | decide | omega) hx hm (ci_hvL ci6 rfl) (mi_keep mi7 rfl rfl rfl rfl rfl rfl (fun _ => rfl) (fun _ => rfl) (fun _ => rfl) (fun _ => rfl) (fun _ => rfl) (fun _ => rfl) (fun _ => rfl) (fun _ => rfl) (fun _ => rfl) (fun _ => rfl) (fun _ => rfl) (fun _ => rfl) (fun _ => rfl)) ⟨_, (relc_frm ci6 rc8 (frm_hv rfl rfl)), (relm_keep rm9 rfl rfl rfl rfl rfl rfl rfl rfl rfl rfl rfl rfl (fun _ => rfl) (fun _ => rfl) (fun _ => rfl) (fun _ => rfl) (fun _ => rfl) (fun _ => rfl) (fun _ => rfl) (fun _ => rfl) (fun _ => rfl))⟩
def PL23 : Cod := [(1195, .aload_n 1, 1), (1196, .invokevirtual 116, 3), (1199, .pop2, 1), (1200, .aload_n 2, 1), (1201, .invokevirtual 120, 3), (1204, .pop2, 1), (1205, .goto 456, 3)]
theorem hPL23 : Dec code PL23 := dec_of (by decide +kernel)
set_option maxRecDepth 100000 in
set_option maxHeartbeats 4000000 in
theorem law_23 {E : En} {nm : String} {as : List Vl} {mc ms : Nat} {Y : Option Vl → Sg → Gh → Prop} {X : Xp} {b L : Nat} {sv : Int → Int} (hX : Cl E (mL nm) as 840 mc ms Y X) (hs : Scr X b L sv) {cs ss : Nat} {S : Sg} {G : Gh} {x i : Int} (i0 : 0 ≤ i) (i1 : i + 8 ≤ L) (i2 : i ≤ 4096) (hx : S x = 128) (hm : S (Ad E 1) = 1) (ci : CI E S G) (mi : MI E G) (rel : ∃ t : Tz, RelC S G x t ∧ RelM E G t) (hc : cs + 704 ≤ mc) (hq : ss + 6964 ≤ ms) (kk : ∀ (cs' ss' : Nat) (S' : Sg) (G' : Gh), cs' ≤ cs + 704 → ss' ≤ ss + 6964 → S' x = 128 → S' (Ad E 1) = 1 → CI E S' G' → MI E G' → (∃ t : Tz, RelC S' G' x t ∧ RelM E G' t) → X cs' ss' 1661 [] [(0, (2, (b : Int))), (1, (2, x)), (2, (2, Ad E 1)), (3, (0, i))] S' G') : X cs ss 1195 [] [(0, (2, (b : Int))), (1, (2, x)), (2, (2, Ad E 1)), (3, (0, i))] S G := by
  have hP := hPL23
  obtain ⟨t, rc, rm⟩ := rel
  refine r_ex hX hP 1 (pc' := 1196) (st' := [(2, x)]) (lo' := [(0, (2, (b : Int))), (1, (2, x)), (2, (2, Ad E 1)), (3, (0, i))]) rfl ?_
  refine r_callV gd hX hP rfl cv_L_116_128 hx (d' := 0) (mc' := 0) (ms' := 0) (as' := []) (st := []) (by first | decide | omega) (by first | decide | omega) (by first | decide | omega) rfl rfl (Nat.le_of_ble_eq_true rfl) (c_X11_upper E S G x  hx) ?_
  rintro _ _ _ ⟨rfl, rfl, z1, rfl, z1a, z1b⟩
  refine r_ex hX hP 2 (pc' := 1201) (st' := [(2, Ad E 1)]) (lo' := [(0, (2, (b : Int))), (1, (2, x)), (2, (2, Ad E 1)), (3, (0, i))]) rfl ?_
  refine r_callV gd hX hP rfl cv_L_120_1 hm (d' := 0) (mc' := 0) (ms' := 0) (as' := []) (st := []) (by first | decide | omega) (by first | decide | omega) (by first | decide | omega) rfl rfl (Nat.le_of_ble_eq_true rfl) (c_X12_upper E S G  hm) ?_
  rintro _ _ _ ⟨rfl, ⟨G4, rfl⟩, z3, rfl, z3a, z3b⟩
  refine r_ex hX hP 2 (pc' := 1661) (st' := []) (lo' := [(0, (2, (b : Int))), (1, (2, x)), (2, (2, Ad E 1)), (3, (0, i))]) rfl ?_
  exact kk _ _ _ _ (by first | decide | omega) (by first | decide | omega) hx hm (ci_hvL ci rfl) (mi_keep mi rfl rfl rfl rfl rfl rfl (fun _ => rfl) (fun _ => rfl) (fun _ => rfl) (fun _ => rfl) (fun _ => rfl) (fun _ => rfl) (fun _ => rfl) (fun _ => rfl) (fun _ => rfl) (fun _ => rfl) (fun _ => rfl) (fun _ => rfl) (fun _ => rfl)) ⟨_, (relc_frm ci rc (frm_hv rfl rfl)), (relm_keep rm rfl rfl rfl rfl rfl rfl rfl rfl rfl rfl rfl rfl (fun _ => rfl) (fun _ => rfl) (fun _ => rfl) (fun _ => rfl) (fun _ => rfl) (fun _ => rfl) (fun _ => rfl) (fun _ => rfl) (fun _ => rfl))⟩
def PL24 : Cod := [(1208, .aload_n 1, 1), (1209, .invokevirtual 121, 3), (1212, .pop2, 1), (1213, .aload_n 2, 1), (1214, .invokevirtual 124, 3), (1217, .pop2, 1), (1218, .goto 443, 3)]
theorem hPL24 : Dec code PL24 := dec_of (by decide +kernel)
set_option maxRecDepth 100000 in
set_option maxHeartbeats 4000000 in
theorem law_24 {E : En} {nm : String} {as : List Vl} {mc ms : Nat} {Y : Option Vl → Sg → Gh → Prop} {X : Xp} {b L : Nat} {sv : Int → Int} (hX : Cl E (mL nm) as 840 mc ms Y X) (hs : Scr X b L sv) {cs ss : Nat} {S : Sg} {G : Gh} {x i : Int} (i0 : 0 ≤ i) (i1 : i + 8 ≤ L) (i2 : i ≤ 4096) (hx : S x = 128) (hm : S (Ad E 1) = 1) (ci : CI E S G) (mi : MI E G) (rel : ∃ t : Tz, RelC S G x t ∧ RelM E G t) (hc : cs + 704 ≤ mc) (hq : ss + 6964 ≤ ms) (kk : ∀ (cs' ss' : Nat) (S' : Sg) (G' : Gh), cs' ≤ cs + 704 → ss' ≤ ss + 6964 → S' x = 128 → S' (Ad E 1) = 1 → CI E S' G' → MI E G' → (∃ t : Tz, RelC S' G' x t ∧ RelM E G' t) → X cs' ss' 1661 [] [(0, (2, (b : Int))), (1, (2, x)), (2, (2, Ad E 1)), (3, (0, i))] S' G') : X cs ss 1208 [] [(0, (2, (b : Int))), (1, (2, x)), (2, (2, Ad E 1)), (3, (0, i))] S G := by
  have hP := hPL24
  obtain ⟨t, rc, rm⟩ := rel
  refine r_ex hX hP 1 (pc' := 1209) (st' := [(2, x)]) (lo' := [(0, (2, (b : Int))), (1, (2, x)), (2, (2, Ad E 1)), (3, (0, i))]) rfl ?_
  refine r_callV gd hX hP rfl cv_L_121_128 hx (d' := 0) (mc' := 0) (ms' := 0) (as' := []) (st := []) (by first | decide | omega) (by first | decide | omega) (by first | decide | omega) rfl rfl (Nat.le_of_ble_eq_true rfl) (c_X11_lower E S G x  hx) ?_
  rintro _ _ _ ⟨rfl, rfl, z1, rfl, z1a, z1b⟩
  refine r_ex hX hP 2 (pc' := 1214) (st' := [(2, Ad E 1)]) (lo' := [(0, (2, (b : Int))), (1, (2, x)), (2, (2, Ad E 1)), (3, (0, i))]) rfl ?_
  refine r_callV gd hX hP rfl cv_L_124_1 hm (d' := 0) (mc' := 0) (ms' := 0) (as' := []) (st := []) (by first | decide | omega) (by first | decide | omega) (by first | decide | omega) rfl rfl (Nat.le_of_ble_eq_true rfl) (c_X12_lower E S G  hm) ?_
  rintro _ _ _ ⟨rfl, ⟨G4, rfl⟩, z3, rfl, z3a, z3b⟩
  refine r_ex hX hP 2 (pc' := 1661) (st' := []) (lo' := [(0, (2, (b : Int))), (1, (2, x)), (2, (2, Ad E 1)), (3, (0, i))]) rfl ?_
  exact kk _ _ _ _ (by first | decide | omega) (by first | decide | omega) hx hm (ci_hvL ci rfl) (mi_keep mi rfl rfl rfl rfl rfl rfl (fun _ => rfl) (fun _ => rfl) (fun _ => rfl) (fun _ => rfl) (fun _ => rfl) (fun _ => rfl) (fun _ => rfl) (fun _ => rfl) (fun _ => rfl) (fun _ => rfl) (fun _ => rfl) (fun _ => rfl) (fun _ => rfl)) ⟨_, (relc_frm ci rc (frm_hv rfl rfl)), (relm_keep rm rfl rfl rfl rfl rfl rfl rfl rfl rfl rfl rfl rfl (fun _ => rfl) (fun _ => rfl) (fun _ => rfl) (fun _ => rfl) (fun _ => rfl) (fun _ => rfl) (fun _ => rfl) (fun _ => rfl) (fun _ => rfl))⟩
def PL25 : Cod := [(1221, .aload_n 1, 1), (1222, .aload_n 0, 1), (1223, .iload_n 3, 1), (1224, .iconst 1, 1), (1225, .iadd, 1), (1226, .iaload, 1), (1227, .aload_n 0, 1), (1228, .iload_n 3, 1), (1229, .iconst 2, 1), (1230, .iadd, 1), (1231, .iaload, 1), (1232, .invokevirtual 125, 3), (1235, .pop, 1), (1236, .aload_n 2, 1), (1237, .aload_n 0, 1), (1238, .iload_n 3, 1), (1239, .iconst 1, 1), (1240, .iadd, 1), (1241, .iaload, 1), (1242, .aload_n 0, 1), (1243, .iload_n 3, 1), (1244, .iconst 2, 1), (1245, .iadd, 1), (1246, .iaload, 1), (1247, .invokevirtual 129, 3), (1250, .pop, 1), (1251, .goto 410, 3)]
theorem hPL25 : Dec code PL25 := dec_of (by decide +kernel)
set_option maxRecDepth 100000 in
set_option maxHeartbeats 4000000 in
theorem law_25 {E : En} {nm : String} {as : List Vl} {mc ms : Nat} {Y : Option Vl → Sg → Gh → Prop} {X : Xp} {b L : Nat} {sv : Int → Int} (hX : Cl E (mL nm) as 840 mc ms Y X) (hs : Scr X b L sv) {cs ss : Nat} {S : Sg} {G : Gh} {x i : Int} (i0 : 0 ≤ i) (i1 : i + 8 ≤ L) (i2 : i ≤ 4096) (hx : S x = 128) (hm : S (Ad E 1) = 1) (ci : CI E S G) (mi : MI E G) (rel : ∃ t : Tz, RelC S G x t ∧ RelM E G t) (hc : cs + 704 ≤ mc) (hq : ss + 6964 ≤ ms) (kk : ∀ (cs' ss' : Nat) (S' : Sg) (G' : Gh), cs' ≤ cs + 704 → ss' ≤ ss + 6964 → S' x = 128 → S' (Ad E 1) = 1 → CI E S' G' → MI E G' → (∃ t : Tz, RelC S' G' x t ∧ RelM E G' t) → X cs' ss' 1661 [] [(0, (2, (b : Int))), (1, (2, x)), (2, (2, Ad E 1)), (3, (0, i))] S' G') : X cs ss 1221 [] [(0, (2, (b : Int))), (1, (2, x)), (2, (2, Ad E 1)), (3, (0, i))] S G := by
  have hP := hPL25
  obtain ⟨t, rc, rm⟩ := rel
  refine r_ex hX hP 5 (pc' := 1226) (st' := [(0, (i + 1)), (2, (b : Int)), (2, x)]) (lo' := [(0, (2, (b : Int))), (1, (2, x)), (2, (2, Ad E 1)), (3, (0, i))]) rfl ?_
  refine scr_rd hs hP rfl (by first | decide | omega) (by first | decide | omega) ?_
  refine r_ex hX hP 4 (pc' := 1231) (st' := [(0, (i + 2)), (2, (b : Int)), (0, (sv (i + 1))), (2, x)]) (lo' := [(0, (2, (b : Int))), (1, (2, x)), (2, (2, Ad E 1)), (3, (0, i))]) rfl ?_
  refine scr_rd hs hP rfl (by first | decide | omega) (by first | decide | omega) ?_
  have bb2 := hs.1 (i + 1)
  have bb3 := hs.1 (i + 2)
  refine r_callV gd hX hP rfl cv_L_125_128 hx (d' := 2) (mc' := 0) (ms' := 0) (as' := [(0, (sv (i + 1))), (0, (sv (i + 2)))]) (st := []) (by first | decide | omega) (by first | decide | omega) (by first | decide | omega) rfl rfl (Nat.le_of_ble_eq_true rfl) (c_X11_rate E S G x (sv (i + 1)) (sv (i + 2)) hx (by first | decide | omega) (by first | decide | omega) (by first | decide | omega) (by first | decide | omega)) ?_
  rintro _ _ _ ⟨rfl, ⟨G4, rfl⟩, z1, rfl, z1a, z1b⟩
  have ci5 : CI E S (hw [(94, -1), (128, 0)] G G4) := ci_hw ci rfl
  have mi6 : MI E (hw [(94, -1), (128, 0)] G G4) := mi_hwL mi rfl
  have rc7 : RelC S (hw [(94, -1), (128, 0)] G G4) x t := relc_frm ci rc (frm_hw rfl)
  have rm8 : RelM E (hw [(94, -1), (128, 0)] G G4) t := relm_hwL rm rfl
  refine r_ex hX hP 6 (pc' := 1241) (st' := [(0, (i + 1)), (2, (b : Int)), (2, Ad E 1)]) (lo' := [(0, (2, (b : Int))), (1, (2, x)), (2, (2, Ad E 1)), (3, (0, i))]) rfl ?_
  refine scr_rd hs hP rfl (by first | decide | omega) (by first | decide | omega) ?_
  refine r_ex hX hP 4 (pc' := 1246) (st' := [(0, (i + 2)), (2, (b : Int)), (0, (sv (i + 1))), (2, Ad E 1)]) (lo' := [(0, (2, (b : Int))), (1, (2, x)), (2, (2, Ad E 1)), (3, (0, i))]) rfl ?_
  refine scr_rd hs hP rfl (by first | decide | omega) (by first | decide | omega) ?_
  have bb10 := hs.1 (i + 1)
  have bb11 := hs.1 (i + 2)
  refine r_callV gd hX hP rfl cv_L_129_1 hm (d' := 2) (mc' := 0) (ms' := 0) (as' := [(0, (sv (i + 1))), (0, (sv (i + 2)))]) (st := []) (by first | decide | omega) (by first | decide | omega) (by first | decide | omega) rfl rfl (Nat.le_of_ble_eq_true rfl) (c_X12_rate E S (hw [(94, -1), (128, 0)] G G4) (sv (i + 1)) (sv (i + 2)) hm (by first | decide | omega) (by first | decide | omega) (by first | decide | omega) (by first | decide | omega)) ?_
  rintro _ _ _ ⟨rfl, ⟨G12, rfl⟩, z9, rfl, (⟨rfl, f13, f14, f15, f16⟩ | ⟨rfl, f17⟩)⟩
  · skip
    refine r_ex hX hP 2 (pc' := 1661) (st' := []) (lo' := [(0, (2, (b : Int))), (1, (2, x)), (2, (2, Ad E 1)), (3, (0, i))]) rfl ?_
    exact kk _ _ _ _ (by first | decide | omega) (by first | decide | omega) hx hm (ci_hvL ci5 rfl) (mi_keep mi6 rfl rfl rfl rfl rfl rfl (fun _ => rfl) (fun _ => rfl) (fun _ => rfl) (fun _ => rfl) (fun _ => rfl) (fun _ => rfl) (fun _ => rfl) (fun _ => rfl) (fun _ => rfl) (fun _ => rfl) (fun _ => rfl) (fun _ => rfl) (fun _ => rfl)) ⟨_, (relc_frm ci5 rc7 (frm_hv rfl rfl)), (relm_keep rm8 rfl rfl rfl rfl rfl rfl rfl rfl rfl rfl rfl rfl (fun _ => rfl) (fun _ => rfl) (fun _ => rfl) (fun _ => rfl) (fun _ => rfl) (fun _ => rfl) (fun _ => rfl) (fun _ => rfl) (fun _ => rfl))⟩
  · skip
    refine r_ex hX hP 2 (pc' := 1661) (st' := []) (lo' := [(0, (2, (b : Int))), (1, (2, x)), (2, (2, Ad E 1)), (3, (0, i))]) rfl ?_
    exact kk _ _ _ _ (by first | decide | omega) (by first | decide | omega) hx hm (ci_hvL ci5 rfl) (mi_keep mi6 rfl rfl rfl rfl rfl rfl (fun _ => rfl) (fun _ => rfl) (fun _ => rfl) (fun _ => rfl) (fun _ => rfl) (fun _ => rfl) (fun _ => rfl) (fun _ => rfl) (fun _ => rfl) (fun _ => rfl) (fun _ => rfl) (fun _ => rfl) (fun _ => rfl)) ⟨_, (relc_frm ci5 rc7 (frm_hv rfl rfl)), (relm_keep rm8 rfl rfl rfl rfl rfl rfl rfl rfl rfl rfl rfl rfl (fun _ => rfl) (fun _ => rfl) (fun _ => rfl) (fun _ => rfl) (fun _ => rfl) (fun _ => rfl) (fun _ => rfl) (fun _ => rfl) (fun _ => rfl))⟩
def PL26 : Cod := [(1254, .aload_n 1, 1), (1255, .aload_n 0, 1), (1256, .iload_n 3, 1), (1257, .iconst 1, 1), (1258, .iadd, 1), (1259, .iaload, 1), (1260, .aload_n 0, 1), (1261, .iload_n 3, 1), (1262, .iconst 2, 1), (1263, .iadd, 1), (1264, .iaload, 1), (1265, .aload_n 0, 1), (1266, .iload_n 3, 1), (1267, .iconst 3, 1), (1268, .iadd, 1), (1269, .iaload, 1), (1270, .invokevirtual 130, 3), (1273, .pop2, 1), (1274, .aload_n 2, 1), (1275, .aload_n 0, 1), (1276, .iload_n 3, 1), (1277, .iconst 1, 1), (1278, .iadd, 1), (1279, .iaload, 1), (1280, .aload_n 0, 1), (1281, .iload_n 3, 1), (1282, .iconst 2, 1), (1283, .iadd, 1), (1284, .iaload, 1), (1285, .aload_n 0, 1), (1286, .iload_n 3, 1), (1287, .iconst 3, 1), (1288, .iadd, 1), (1289, .iaload, 1), (1290, .invokevirtual 133, 3), (1293, .pop2, 1), (1294, .goto 367, 3)]
theorem hPL26 : Dec code PL26 := dec_of (by decide +kernel)
set_option maxRecDepth 100000 in
set_option maxHeartbeats 4000000 in
theorem law_26 {E : En} {nm : String} {as : List Vl} {mc ms : Nat} {Y : Option Vl → Sg → Gh → Prop} {X : Xp} {b L : Nat} {sv : Int → Int} (hX : Cl E (mL nm) as 840 mc ms Y X) (hs : Scr X b L sv) {cs ss : Nat} {S : Sg} {G : Gh} {x i : Int} (i0 : 0 ≤ i) (i1 : i + 8 ≤ L) (i2 : i ≤ 4096) (hx : S x = 128) (hm : S (Ad E 1) = 1) (ci : CI E S G) (mi : MI E G) (rel : ∃ t : Tz, RelC S G x t ∧ RelM E G t) (hc : cs + 704 ≤ mc) (hq : ss + 6964 ≤ ms) (kk : ∀ (cs' ss' : Nat) (S' : Sg) (G' : Gh), cs' ≤ cs + 704 → ss' ≤ ss + 6964 → S' x = 128 → S' (Ad E 1) = 1 → CI E S' G' → MI E G' → (∃ t : Tz, RelC S' G' x t ∧ RelM E G' t) → X cs' ss' 1661 [] [(0, (2, (b : Int))), (1, (2, x)), (2, (2, Ad E 1)), (3, (0, i))] S' G') : X cs ss 1254 [] [(0, (2, (b : Int))), (1, (2, x)), (2, (2, Ad E 1)), (3, (0, i))] S G := by
  have hP := hPL26
  obtain ⟨t, rc, rm⟩ := rel
  refine r_ex hX hP 5 (pc' := 1259) (st' := [(0, (i + 1)), (2, (b : Int)), (2, x)]) (lo' := [(0, (2, (b : Int))), (1, (2, x)), (2, (2, Ad E 1)), (3, (0, i))]) rfl ?_
  refine scr_rd hs hP rfl (by first | decide | omega) (by first | decide | omega) ?_
  refine r_ex hX hP 4 (pc' := 1264) (st' := [(0, (i + 2)), (2, (b : Int)), (0, (sv (i + 1))), (2, x)]) (lo' := [(0, (2, (b : Int))), (1, (2, x)), (2, (2, Ad E 1)), (3, (0, i))]) rfl ?_
  refine scr_rd hs hP rfl (by first | decide | omega) (by first | decide | omega) ?_
  refine r_ex hX hP 4 (pc' := 1269) (st' := [(0, (i + 3)), (2, (b : Int)), (0, (sv (i + 2))), (0, (sv (i + 1))), (2, x)]) (lo' := [(0, (2, (b : Int))), (1, (2, x)), (2, (2, Ad E 1)), (3, (0, i))]) rfl ?_
  refine scr_rd hs hP rfl (by first | decide | omega) (by first | decide | omega) ?_
  have bb2 := hs.1 (i + 1)
  have bb3 := hs.1 (i + 2)
  have bb4 := hs.1 (i + 3)
  refine r_callV gd hX hP rfl cv_L_130_128 hx (d' := 5) (mc' := 0) (ms' := 0) (as' := [(0, (sv (i + 1))), (0, (sv (i + 2))), (0, (sv (i + 3)))]) (st := []) (by first | decide | omega) (by first | decide | omega) (by first | decide | omega) rfl rfl (Nat.le_of_ble_eq_true rfl) (c_X11_brings E S G x (sv (i + 1)) (sv (i + 2)) (sv (i + 3)) hx (by first | decide | omega) (by first | decide | omega) (by first | decide | omega) (by first | decide | omega) (by first | decide | omega) (by first | decide | omega) ci) ?_
  rintro _ _ _ ⟨rfl, ⟨G5, rfl⟩, z1, rfl, z1a, z1b⟩
  have ci6 : CI E S (hw [(119, -1), (125, -1), (126, -1), (127, -1), (128, 0)] G G5) := ci_hw ci rfl
  have mi7 : MI E (hw [(119, -1), (125, -1), (126, -1), (127, -1), (128, 0)] G G5) := mi_hwL mi rfl
  have rc8 : RelC S (hw [(119, -1), (125, -1), (126, -1), (127, -1), (128, 0)] G G5) x t := relc_frm ci rc (frm_hw rfl)
  have rm9 : RelM E (hw [(119, -1), (125, -1), (126, -1), (127, -1), (128, 0)] G G5) t := relm_hwL rm rfl
  refine r_ex hX hP 6 (pc' := 1279) (st' := [(0, (i + 1)), (2, (b : Int)), (2, Ad E 1)]) (lo' := [(0, (2, (b : Int))), (1, (2, x)), (2, (2, Ad E 1)), (3, (0, i))]) rfl ?_
  refine scr_rd hs hP rfl (by first | decide | omega) (by first | decide | omega) ?_
  refine r_ex hX hP 4 (pc' := 1284) (st' := [(0, (i + 2)), (2, (b : Int)), (0, (sv (i + 1))), (2, Ad E 1)]) (lo' := [(0, (2, (b : Int))), (1, (2, x)), (2, (2, Ad E 1)), (3, (0, i))]) rfl ?_
  refine scr_rd hs hP rfl (by first | decide | omega) (by first | decide | omega) ?_
  refine r_ex hX hP 4 (pc' := 1289) (st' := [(0, (i + 3)), (2, (b : Int)), (0, (sv (i + 2))), (0, (sv (i + 1))), (2, Ad E 1)]) (lo' := [(0, (2, (b : Int))), (1, (2, x)), (2, (2, Ad E 1)), (3, (0, i))]) rfl ?_
  refine scr_rd hs hP rfl (by first | decide | omega) (by first | decide | omega) ?_
  have bb11 := hs.1 (i + 1)
  have bb12 := hs.1 (i + 2)
  have bb13 := hs.1 (i + 3)
  refine r_callV gd hX hP rfl cv_L_133_1 hm (d' := 36) (mc' := 0) (ms' := 0) (as' := [(0, (sv (i + 1))), (0, (sv (i + 2))), (0, (sv (i + 3)))]) (st := []) (by first | decide | omega) (by first | decide | omega) (by first | decide | omega) rfl rfl (Nat.le_of_ble_eq_true rfl) (c_X12_brings_ E S (hw [(119, -1), (125, -1), (126, -1), (127, -1), (128, 0)] G G5) (sv (i + 1)) (sv (i + 2)) (sv (i + 3)) hm (by first | decide | omega) (by first | decide | omega) (by first | decide | omega) (by first | decide | omega) (by first | decide | omega) (by first | decide | omega) mi7) ?_
  rintro _ _ _ ⟨rfl, ⟨G14, rfl⟩, z10, rfl, z10a, z10b⟩
  refine r_ex hX hP 2 (pc' := 1661) (st' := []) (lo' := [(0, (2, (b : Int))), (1, (2, x)), (2, (2, Ad E 1)), (3, (0, i))]) rfl ?_
  exact kk _ _ _ _ (by first | decide | omega) (by first | decide | omega) hx hm (ci_hvL ci6 rfl) (mi_keep mi7 rfl rfl rfl rfl rfl rfl (fun _ => rfl) (fun _ => rfl) (fun _ => rfl) (fun _ => rfl) (fun _ => rfl) (fun _ => rfl) (fun _ => rfl) (fun _ => rfl) (fun _ => rfl) (fun _ => rfl) (fun _ => rfl) (fun _ => rfl) (fun _ => rfl)) ⟨_, (relc_frm ci6 rc8 (frm_hv rfl rfl)), (relm_keep rm9 rfl rfl rfl rfl rfl rfl rfl rfl rfl rfl rfl rfl (fun _ => rfl) (fun _ => rfl) (fun _ => rfl) (fun _ => rfl) (fun _ => rfl) (fun _ => rfl) (fun _ => rfl) (fun _ => rfl) (fun _ => rfl))⟩
def PL27 : Cod := [(1297, .aload_n 1, 1), (1298, .aload_n 0, 1), (1299, .iload_n 3, 1), (1300, .iconst 1, 1), (1301, .iadd, 1), (1302, .iaload, 1), (1303, .aload_n 0, 1), (1304, .iload_n 3, 1), (1305, .iconst 2, 1), (1306, .iadd, 1), (1307, .iaload, 1), (1308, .invokevirtual 134, 3), (1311, .pop, 1), (1312, .aload_n 2, 1), (1313, .aload_n 0, 1), (1314, .iload_n 3, 1), (1315, .iconst 1, 1), (1316, .iadd, 1), (1317, .iaload, 1), (1318, .aload_n 0, 1), (1319, .iload_n 3, 1), (1320, .iconst 2, 1), (1321, .iadd, 1), (1322, .iaload, 1), (1323, .invokevirtual 137, 3), (1326, .pop, 1), (1327, .goto 334, 3)]
theorem hPL27 : Dec code PL27 := dec_of (by decide +kernel)
set_option maxRecDepth 100000 in
set_option maxHeartbeats 4000000 in
theorem law_27 {E : En} {nm : String} {as : List Vl} {mc ms : Nat} {Y : Option Vl → Sg → Gh → Prop} {X : Xp} {b L : Nat} {sv : Int → Int} (hX : Cl E (mL nm) as 840 mc ms Y X) (hs : Scr X b L sv) {cs ss : Nat} {S : Sg} {G : Gh} {x i : Int} (i0 : 0 ≤ i) (i1 : i + 8 ≤ L) (i2 : i ≤ 4096) (hx : S x = 128) (hm : S (Ad E 1) = 1) (ci : CI E S G) (mi : MI E G) (rel : ∃ t : Tz, RelC S G x t ∧ RelM E G t) (hc : cs + 704 ≤ mc) (hq : ss + 6964 ≤ ms) (kk : ∀ (cs' ss' : Nat) (S' : Sg) (G' : Gh), cs' ≤ cs + 704 → ss' ≤ ss + 6964 → S' x = 128 → S' (Ad E 1) = 1 → CI E S' G' → MI E G' → (∃ t : Tz, RelC S' G' x t ∧ RelM E G' t) → X cs' ss' 1661 [] [(0, (2, (b : Int))), (1, (2, x)), (2, (2, Ad E 1)), (3, (0, i))] S' G') : X cs ss 1297 [] [(0, (2, (b : Int))), (1, (2, x)), (2, (2, Ad E 1)), (3, (0, i))] S G := by
  have hP := hPL27
  obtain ⟨t, rc, rm⟩ := rel
  refine r_ex hX hP 5 (pc' := 1302) (st' := [(0, (i + 1)), (2, (b : Int)), (2, x)]) (lo' := [(0, (2, (b : Int))), (1, (2, x)), (2, (2, Ad E 1)), (3, (0, i))]) rfl ?_
  refine scr_rd hs hP rfl (by first | decide | omega) (by first | decide | omega) ?_
  refine r_ex hX hP 4 (pc' := 1307) (st' := [(0, (i + 2)), (2, (b : Int)), (0, (sv (i + 1))), (2, x)]) (lo' := [(0, (2, (b : Int))), (1, (2, x)), (2, (2, Ad E 1)), (3, (0, i))]) rfl ?_
  refine scr_rd hs hP rfl (by first | decide | omega) (by first | decide | omega) ?_
  have bb2 := hs.1 (i + 1)
  have bb3 := hs.1 (i + 2)
  refine r_callV gd hX hP rfl cv_L_134_128 hx (d' := 5) (mc' := 0) (ms' := 0) (as' := [(0, (sv (i + 1))), (0, (sv (i + 2)))]) (st := []) (by first | decide | omega) (by first | decide | omega) (by first | decide | omega) rfl rfl (Nat.le_of_ble_eq_true rfl) (c_X11_best E S G x (sv (i + 1)) (sv (i + 2)) hx (by first | decide | omega) (by first | decide | omega) (by first | decide | omega) (by first | decide | omega) ci) ?_
  rintro _ _ _ ⟨rfl, ⟨G4, rfl⟩, z1, rfl, z1a, z1b⟩
  have ci5 : CI E S (hw [(119, -1), (125, -1), (126, -1), (127, -1), (128, 0)] G G4) := ci_hw ci rfl
  have mi6 : MI E (hw [(119, -1), (125, -1), (126, -1), (127, -1), (128, 0)] G G4) := mi_hwL mi rfl
  have rc7 : RelC S (hw [(119, -1), (125, -1), (126, -1), (127, -1), (128, 0)] G G4) x t := relc_frm ci rc (frm_hw rfl)
  have rm8 : RelM E (hw [(119, -1), (125, -1), (126, -1), (127, -1), (128, 0)] G G4) t := relm_hwL rm rfl
  refine r_ex hX hP 6 (pc' := 1317) (st' := [(0, (i + 1)), (2, (b : Int)), (2, Ad E 1)]) (lo' := [(0, (2, (b : Int))), (1, (2, x)), (2, (2, Ad E 1)), (3, (0, i))]) rfl ?_
  refine scr_rd hs hP rfl (by first | decide | omega) (by first | decide | omega) ?_
  refine r_ex hX hP 4 (pc' := 1322) (st' := [(0, (i + 2)), (2, (b : Int)), (0, (sv (i + 1))), (2, Ad E 1)]) (lo' := [(0, (2, (b : Int))), (1, (2, x)), (2, (2, Ad E 1)), (3, (0, i))]) rfl ?_
  refine scr_rd hs hP rfl (by first | decide | omega) (by first | decide | omega) ?_
  have bb10 := hs.1 (i + 1)
  have bb11 := hs.1 (i + 2)
  refine r_callV gd hX hP rfl cv_L_137_1 hm (d' := 36) (mc' := 0) (ms' := 0) (as' := [(0, (sv (i + 1))), (0, (sv (i + 2)))]) (st := []) (by first | decide | omega) (by first | decide | omega) (by first | decide | omega) rfl rfl (Nat.le_of_ble_eq_true rfl) (c_X12_best E S (hw [(119, -1), (125, -1), (126, -1), (127, -1), (128, 0)] G G4) (sv (i + 1)) (sv (i + 2)) hm (by first | decide | omega) (by first | decide | omega) (by first | decide | omega) (by first | decide | omega) mi6) ?_
  rintro _ _ _ ⟨rfl, ⟨G12, rfl⟩, z9, rfl, z9a, z9b⟩
  refine r_ex hX hP 2 (pc' := 1661) (st' := []) (lo' := [(0, (2, (b : Int))), (1, (2, x)), (2, (2, Ad E 1)), (3, (0, i))]) rfl ?_
  exact kk _ _ _ _ (by first | decide | omega) (by first | decide | omega) hx hm (ci_hvL ci5 rfl) (mi_keep mi6 rfl rfl rfl rfl rfl rfl (fun _ => rfl) (fun _ => rfl) (fun _ => rfl) (fun _ => rfl) (fun _ => rfl) (fun _ => rfl) (fun _ => rfl) (fun _ => rfl) (fun _ => rfl) (fun _ => rfl) (fun _ => rfl) (fun _ => rfl) (fun _ => rfl)) ⟨_, (relc_frm ci5 rc7 (frm_hv rfl rfl)), (relm_keep rm8 rfl rfl rfl rfl rfl rfl rfl rfl rfl rfl rfl rfl (fun _ => rfl) (fun _ => rfl) (fun _ => rfl) (fun _ => rfl) (fun _ => rfl) (fun _ => rfl) (fun _ => rfl) (fun _ => rfl) (fun _ => rfl))⟩
def PL28 : Cod := [(1330, .aload_n 1, 1), (1331, .aload_n 0, 1), (1332, .iload_n 3, 1), (1333, .iconst 1, 1), (1334, .iadd, 1), (1335, .iaload, 1), (1336, .aload_n 0, 1), (1337, .iload_n 3, 1), (1338, .iconst 2, 1), (1339, .iadd, 1), (1340, .iaload, 1), (1341, .aload_n 0, 1), (1342, .iload_n 3, 1), (1343, .iconst 3, 1), (1344, .iadd, 1), (1345, .iaload, 1), (1346, .aload_n 0, 1), (1347, .iload_n 3, 1), (1348, .iconst 4, 1), (1349, .iadd, 1), (1350, .iaload, 1), (1351, .invokevirtual 138, 3), (1354, .pop, 1), (1355, .aload_n 2, 1), (1356, .aload_n 0, 1), (1357, .iload_n 3, 1), (1358, .iconst 1, 1), (1359, .iadd, 1), (1360, .iaload, 1), (1361, .aload_n 0, 1), (1362, .iload_n 3, 1), (1363, .iconst 2, 1), (1364, .iadd, 1), (1365, .iaload, 1), (1366, .aload_n 0, 1), (1367, .iload_n 3, 1), (1368, .iconst 3, 1), (1369, .iadd, 1), (1370, .iaload, 1), (1371, .aload_n 0, 1), (1372, .iload_n 3, 1), (1373, .iconst 4, 1), (1374, .iadd, 1), (1375, .iaload, 1), (1376, .invokevirtual 142, 3), (1379, .pop, 1), (1380, .goto 281, 3)]
theorem hPL28 : Dec code PL28 := dec_of (by decide +kernel)
set_option maxRecDepth 100000 in
set_option maxHeartbeats 4000000 in
theorem law_28 {E : En} {nm : String} {as : List Vl} {mc ms : Nat} {Y : Option Vl → Sg → Gh → Prop} {X : Xp} {b L : Nat} {sv : Int → Int} (hX : Cl E (mL nm) as 840 mc ms Y X) (hs : Scr X b L sv) {cs ss : Nat} {S : Sg} {G : Gh} {x i : Int} (i0 : 0 ≤ i) (i1 : i + 8 ≤ L) (i2 : i ≤ 4096) (hx : S x = 128) (hm : S (Ad E 1) = 1) (ci : CI E S G) (mi : MI E G) (rel : ∃ t : Tz, RelC S G x t ∧ RelM E G t) (hc : cs + 704 ≤ mc) (hq : ss + 6964 ≤ ms) (kk : ∀ (cs' ss' : Nat) (S' : Sg) (G' : Gh), cs' ≤ cs + 704 → ss' ≤ ss + 6964 → S' x = 128 → S' (Ad E 1) = 1 → CI E S' G' → MI E G' → (∃ t : Tz, RelC S' G' x t ∧ RelM E G' t) → X cs' ss' 1661 [] [(0, (2, (b : Int))), (1, (2, x)), (2, (2, Ad E 1)), (3, (0, i))] S' G') : X cs ss 1330 [] [(0, (2, (b : Int))), (1, (2, x)), (2, (2, Ad E 1)), (3, (0, i))] S G := by
  have hP := hPL28
  obtain ⟨t, rc, rm⟩ := rel
  refine r_ex hX hP 5 (pc' := 1335) (st' := [(0, (i + 1)), (2, (b : Int)), (2, x)]) (lo' := [(0, (2, (b : Int))), (1, (2, x)), (2, (2, Ad E 1)), (3, (0, i))]) rfl ?_
  refine scr_rd hs hP rfl (by first | decide | omega) (by first | decide | omega) ?_
  refine r_ex hX hP 4 (pc' := 1340) (st' := [(0, (i + 2)), (2, (b : Int)), (0, (sv (i + 1))), (2, x)]) (lo' := [(0, (2, (b : Int))), (1, (2, x)), (2, (2, Ad E 1)), (3, (0, i))]) rfl ?_
  refine scr_rd hs hP rfl (by first | decide | omega) (by first | decide | omega) ?_
  refine r_ex hX hP 4 (pc' := 1345) (st' := [(0, (i + 3)), (2, (b : Int)), (0, (sv (i + 2))), (0, (sv (i + 1))), (2, x)]) (lo' := [(0, (2, (b : Int))), (1, (2, x)), (2, (2, Ad E 1)), (3, (0, i))]) rfl ?_
  refine scr_rd hs hP rfl (by first | decide | omega) (by first | decide | omega) ?_
  refine r_ex hX hP 4 (pc' := 1350) (st' := [(0, (i + 4)), (2, (b : Int)), (0, (sv (i + 3))), (0, (sv (i + 2))), (0, (sv (i + 1))), (2, x)]) (lo' := [(0, (2, (b : Int))), (1, (2, x)), (2, (2, Ad E 1)), (3, (0, i))]) rfl ?_
  refine scr_rd hs hP rfl (by first | decide | omega) (by first | decide | omega) ?_
  have bb2 := hs.1 (i + 1)
  have bb3 := hs.1 (i + 2)
  have bb4 := hs.1 (i + 3)
  have bb5 := hs.1 (i + 4)
  refine r_adl hX hm (fun ad6 => ?_)
  refine r_callV gd hX hP rfl cv_L_138_128 hx (d' := 15) (mc' := 2) (ms' := 82) (as' := [(0, (sv (i + 1))), (0, (sv (i + 2))), (0, (sv (i + 3))), (0, (sv (i + 4)))]) (st := []) (by first | decide | omega) (by first | decide | omega) (by first | decide | omega) rfl rfl (Nat.le_of_ble_eq_true rfl) (k_name E S G x (sv (i + 1)) (sv (i + 2)) (sv (i + 3)) (sv (i + 4)) hx (by first | decide | omega) (by first | decide | omega) (by first | decide | omega) (by first | decide | omega) (by first | decide | omega) (by first | decide | omega) (by first | decide | omega) (by first | decide | omega) ci t rc) ?_
  rintro _ S9 G10 ⟨g11, rc7, z1, rfl, z1a, z1b, z1v, ci12⟩
  have hx14 := gr_lab g11 hx (by decide)
  have hm15 := gr_lab g11 hm (by decide)
  have mi13 := mi_gr mi hm ad6 g11 rfl
  have rm8 := relm_gr rm hm ad6 g11 rfl
  refine r_ex hX hP 6 (pc' := 1360) (st' := [(0, (i + 1)), (2, (b : Int)), (2, Ad E 1)]) (lo' := [(0, (2, (b : Int))), (1, (2, x)), (2, (2, Ad E 1)), (3, (0, i))]) rfl ?_
  refine scr_rd hs hP rfl (by first | decide | omega) (by first | decide | omega) ?_
  refine r_ex hX hP 4 (pc' := 1365) (st' := [(0, (i + 2)), (2, (b : Int)), (0, (sv (i + 1))), (2, Ad E 1)]) (lo' := [(0, (2, (b : Int))), (1, (2, x)), (2, (2, Ad E 1)), (3, (0, i))]) rfl ?_
  refine scr_rd hs hP rfl (by first | decide | omega) (by first | decide | omega) ?_
  refine r_ex hX hP 4 (pc' := 1370) (st' := [(0, (i + 3)), (2, (b : Int)), (0, (sv (i + 2))), (0, (sv (i + 1))), (2, Ad E 1)]) (lo' := [(0, (2, (b : Int))), (1, (2, x)), (2, (2, Ad E 1)), (3, (0, i))]) rfl ?_
  refine scr_rd hs hP rfl (by first | decide | omega) (by first | decide | omega) ?_
  refine r_ex hX hP 4 (pc' := 1375) (st' := [(0, (i + 4)), (2, (b : Int)), (0, (sv (i + 3))), (0, (sv (i + 2))), (0, (sv (i + 1))), (2, Ad E 1)]) (lo' := [(0, (2, (b : Int))), (1, (2, x)), (2, (2, Ad E 1)), (3, (0, i))]) rfl ?_
  refine scr_rd hs hP rfl (by first | decide | omega) (by first | decide | omega) ?_
  have bb17 := hs.1 (i + 1)
  have bb18 := hs.1 (i + 2)
  have bb19 := hs.1 (i + 3)
  have bb20 := hs.1 (i + 4)
  refine r_callV gd hX hP rfl cv_L_142_1 hm15 (d' := 2) (mc' := 0) (ms' := 0) (as' := [(0, (sv (i + 1))), (0, (sv (i + 2))), (0, (sv (i + 3))), (0, (sv (i + 4)))]) (st := []) (by first | decide | omega) (by first | decide | omega) (by first | decide | omega) rfl rfl (Nat.le_of_ble_eq_true rfl) (l_name E S9 G10 (sv (i + 1)) (sv (i + 2)) (sv (i + 3)) (sv (i + 4)) hm15 (by first | decide | omega) (by first | decide | omega) (by first | decide | omega) (by first | decide | omega) (by first | decide | omega) (by first | decide | omega) (by first | decide | omega) (by first | decide | omega) t rm8) ?_
  rintro _ _ _ ⟨rfl, ⟨G24, rfl⟩, z16, rfl, z16a, z16b, z16v, rm22⟩
  refine r_ex hX hP 2 (pc' := 1661) (st' := []) (lo' := [(0, (2, (b : Int))), (1, (2, x)), (2, (2, Ad E 1)), (3, (0, i))]) rfl ?_
  exact kk _ _ _ _ (by first | decide | omega) (by first | decide | omega) hx14 hm15 (ci_hvL ci12 rfl) (mi_keep mi13 rfl rfl rfl rfl rfl rfl (fun _ => rfl) (fun _ => rfl) (fun _ => rfl) (fun _ => rfl) (fun _ => rfl) (fun _ => rfl) (fun _ => rfl) (fun _ => rfl) (fun _ => rfl) (fun _ => rfl) (fun _ => rfl) (fun _ => rfl) (fun _ => rfl)) ⟨_, (relc_frm ci12 rc7 (frm_hv rfl rfl)), rm22⟩
def PL29 : Cod := [(1383, .aload_n 1, 1), (1384, .aload_n 0, 1), (1385, .iload_n 3, 1), (1386, .iconst 1, 1), (1387, .iadd, 1), (1388, .iaload, 1), (1389, .aload_n 0, 1), (1390, .iload_n 3, 1), (1391, .iconst 2, 1), (1392, .iadd, 1), (1393, .iaload, 1), (1394, .invokevirtual 143, 3), (1397, .pop, 1), (1398, .aload_n 2, 1), (1399, .aload_n 0, 1), (1400, .iload_n 3, 1), (1401, .iconst 1, 1), (1402, .iadd, 1), (1403, .iaload, 1), (1404, .aload_n 0, 1), (1405, .iload_n 3, 1), (1406, .iconst 2, 1), (1407, .iadd, 1), (1408, .iaload, 1), (1409, .invokevirtual 146, 3), (1412, .pop, 1), (1413, .goto 248, 3)]
theorem hPL29 : Dec code PL29 := dec_of (by decide +kernel)
set_option maxRecDepth 100000 in
set_option maxHeartbeats 4000000 in
theorem law_29 {E : En} {nm : String} {as : List Vl} {mc ms : Nat} {Y : Option Vl → Sg → Gh → Prop} {X : Xp} {b L : Nat} {sv : Int → Int} (hX : Cl E (mL nm) as 840 mc ms Y X) (hs : Scr X b L sv) {cs ss : Nat} {S : Sg} {G : Gh} {x i : Int} (i0 : 0 ≤ i) (i1 : i + 8 ≤ L) (i2 : i ≤ 4096) (hx : S x = 128) (hm : S (Ad E 1) = 1) (ci : CI E S G) (mi : MI E G) (rel : ∃ t : Tz, RelC S G x t ∧ RelM E G t) (hc : cs + 704 ≤ mc) (hq : ss + 6964 ≤ ms) (kk : ∀ (cs' ss' : Nat) (S' : Sg) (G' : Gh), cs' ≤ cs + 704 → ss' ≤ ss + 6964 → S' x = 128 → S' (Ad E 1) = 1 → CI E S' G' → MI E G' → (∃ t : Tz, RelC S' G' x t ∧ RelM E G' t) → X cs' ss' 1661 [] [(0, (2, (b : Int))), (1, (2, x)), (2, (2, Ad E 1)), (3, (0, i))] S' G') : X cs ss 1383 [] [(0, (2, (b : Int))), (1, (2, x)), (2, (2, Ad E 1)), (3, (0, i))] S G := by
  have hP := hPL29
  obtain ⟨t, rc, rm⟩ := rel
  refine r_ex hX hP 5 (pc' := 1388) (st' := [(0, (i + 1)), (2, (b : Int)), (2, x)]) (lo' := [(0, (2, (b : Int))), (1, (2, x)), (2, (2, Ad E 1)), (3, (0, i))]) rfl ?_
  refine scr_rd hs hP rfl (by first | decide | omega) (by first | decide | omega) ?_
  refine r_ex hX hP 4 (pc' := 1393) (st' := [(0, (i + 2)), (2, (b : Int)), (0, (sv (i + 1))), (2, x)]) (lo' := [(0, (2, (b : Int))), (1, (2, x)), (2, (2, Ad E 1)), (3, (0, i))]) rfl ?_
  refine scr_rd hs hP rfl (by first | decide | omega) (by first | decide | omega) ?_
  have bb2 := hs.1 (i + 1)
  have bb3 := hs.1 (i + 2)
  refine r_callV gd hX hP rfl cv_L_143_128 hx (d' := 4) (mc' := 0) (ms' := 0) (as' := [(0, (sv (i + 1))), (0, (sv (i + 2)))]) (st := []) (by first | decide | omega) (by first | decide | omega) (by first | decide | omega) rfl rfl (Nat.le_of_ble_eq_true rfl) (k_called E S G x (sv (i + 1)) (sv (i + 2)) hx (by first | decide | omega) (by first | decide | omega) (by first | decide | omega) (by first | decide | omega) ci t rc) ?_
  rintro _ _ _ ⟨rfl, ⟨G6, rfl⟩, rc4, z1, rfl, z1a, z1b, z1v⟩
  have ci7 : CI E S (hw [(128, 0)] G G6) := ci_hw ci rfl
  have mi8 : MI E (hw [(128, 0)] G G6) := mi_hwL mi rfl
  have rm5 : RelM E (hw [(128, 0)] G G6) t := relm_hwL rm rfl
  refine r_ex hX hP 6 (pc' := 1403) (st' := [(0, (i + 1)), (2, (b : Int)), (2, Ad E 1)]) (lo' := [(0, (2, (b : Int))), (1, (2, x)), (2, (2, Ad E 1)), (3, (0, i))]) rfl ?_
  refine scr_rd hs hP rfl (by first | decide | omega) (by first | decide | omega) ?_
  refine r_ex hX hP 4 (pc' := 1408) (st' := [(0, (i + 2)), (2, (b : Int)), (0, (sv (i + 1))), (2, Ad E 1)]) (lo' := [(0, (2, (b : Int))), (1, (2, x)), (2, (2, Ad E 1)), (3, (0, i))]) rfl ?_
  refine scr_rd hs hP rfl (by first | decide | omega) (by first | decide | omega) ?_
  have bb10 := hs.1 (i + 1)
  have bb11 := hs.1 (i + 2)
  refine r_callV gd hX hP rfl cv_L_146_1 hm (d' := 2) (mc' := 0) (ms' := 0) (as' := [(0, (sv (i + 1))), (0, (sv (i + 2)))]) (st := []) (by first | decide | omega) (by first | decide | omega) (by first | decide | omega) rfl rfl (Nat.le_of_ble_eq_true rfl) (l_called E S (hw [(128, 0)] G G6) (sv (i + 1)) (sv (i + 2)) hm (by first | decide | omega) (by first | decide | omega) (by first | decide | omega) (by first | decide | omega) t rm5) ?_
  rintro _ _ _ ⟨rfl, ⟨G15, rfl⟩, z9, rfl, z9a, z9b, z9v, rm13⟩
  refine r_ex hX hP 2 (pc' := 1661) (st' := []) (lo' := [(0, (2, (b : Int))), (1, (2, x)), (2, (2, Ad E 1)), (3, (0, i))]) rfl ?_
  exact kk _ _ _ _ (by first | decide | omega) (by first | decide | omega) hx hm (ci_hvL ci7 rfl) (mi_keep mi8 rfl rfl rfl rfl rfl rfl (fun _ => rfl) (fun _ => rfl) (fun _ => rfl) (fun _ => rfl) (fun _ => rfl) (fun _ => rfl) (fun _ => rfl) (fun _ => rfl) (fun _ => rfl) (fun _ => rfl) (fun _ => rfl) (fun _ => rfl) (fun _ => rfl)) ⟨_, (relc_frm ci7 rc4 (frm_hv rfl rfl)), rm13⟩
def PL30 : Cod := [(1416, .aload_n 1, 1), (1417, .aload_n 0, 1), (1418, .iload_n 3, 1), (1419, .iconst 1, 1), (1420, .iadd, 1), (1421, .iaload, 1), (1422, .aload_n 0, 1), (1423, .iload_n 3, 1), (1424, .iconst 2, 1), (1425, .iadd, 1), (1426, .iaload, 1), (1427, .aload_n 0, 1), (1428, .iload_n 3, 1), (1429, .iconst 3, 1), (1430, .iadd, 1), (1431, .iaload, 1), (1432, .invokevirtual 147, 3), (1435, .pop, 1), (1436, .aload_n 2, 1), (1437, .aload_n 0, 1), (1438, .iload_n 3, 1), (1439, .iconst 1, 1), (1440, .iadd, 1), (1441, .iaload, 1), (1442, .aload_n 0, 1), (1443, .iload_n 3, 1), (1444, .iconst 2, 1), (1445, .iadd, 1), (1446, .iaload, 1), (1447, .aload_n 0, 1), (1448, .iload_n 3, 1), (1449, .iconst 3, 1), (1450, .iadd, 1), (1451, .iaload, 1), (1452, .invokevirtual 150, 3), (1455, .pop, 1), (1456, .goto 205, 3)]
theorem hPL30 : Dec code PL30 := dec_of (by decide +kernel)
set_option maxRecDepth 100000 in
set_option maxHeartbeats 4000000 in
theorem law_30 {E : En} {nm : String} {as : List Vl} {mc ms : Nat} {Y : Option Vl → Sg → Gh → Prop} {X : Xp} {b L : Nat} {sv : Int → Int} (hX : Cl E (mL nm) as 840 mc ms Y X) (hs : Scr X b L sv) {cs ss : Nat} {S : Sg} {G : Gh} {x i : Int} (i0 : 0 ≤ i) (i1 : i + 8 ≤ L) (i2 : i ≤ 4096) (hx : S x = 128) (hm : S (Ad E 1) = 1) (ci : CI E S G) (mi : MI E G) (rel : ∃ t : Tz, RelC S G x t ∧ RelM E G t) (hc : cs + 704 ≤ mc) (hq : ss + 6964 ≤ ms) (kk : ∀ (cs' ss' : Nat) (S' : Sg) (G' : Gh), cs' ≤ cs + 704 → ss' ≤ ss + 6964 → S' x = 128 → S' (Ad E 1) = 1 → CI E S' G' → MI E G' → (∃ t : Tz, RelC S' G' x t ∧ RelM E G' t) → X cs' ss' 1661 [] [(0, (2, (b : Int))), (1, (2, x)), (2, (2, Ad E 1)), (3, (0, i))] S' G') : X cs ss 1416 [] [(0, (2, (b : Int))), (1, (2, x)), (2, (2, Ad E 1)), (3, (0, i))] S G := by
  have hP := hPL30
  obtain ⟨t, rc, rm⟩ := rel
  refine r_ex hX hP 5 (pc' := 1421) (st' := [(0, (i + 1)), (2, (b : Int)), (2, x)]) (lo' := [(0, (2, (b : Int))), (1, (2, x)), (2, (2, Ad E 1)), (3, (0, i))]) rfl ?_
  refine scr_rd hs hP rfl (by first | decide | omega) (by first | decide | omega) ?_
  refine r_ex hX hP 4 (pc' := 1426) (st' := [(0, (i + 2)), (2, (b : Int)), (0, (sv (i + 1))), (2, x)]) (lo' := [(0, (2, (b : Int))), (1, (2, x)), (2, (2, Ad E 1)), (3, (0, i))]) rfl ?_
  refine scr_rd hs hP rfl (by first | decide | omega) (by first | decide | omega) ?_
  refine r_ex hX hP 4 (pc' := 1431) (st' := [(0, (i + 3)), (2, (b : Int)), (0, (sv (i + 2))), (0, (sv (i + 1))), (2, x)]) (lo' := [(0, (2, (b : Int))), (1, (2, x)), (2, (2, Ad E 1)), (3, (0, i))]) rfl ?_
  refine scr_rd hs hP rfl (by first | decide | omega) (by first | decide | omega) ?_
  have bb2 := hs.1 (i + 1)
  have bb3 := hs.1 (i + 2)
  have bb4 := hs.1 (i + 3)
  refine r_callV gd hX hP rfl cv_L_147_128 hx (d' := 4) (mc' := 0) (ms' := 0) (as' := [(0, (sv (i + 1))), (0, (sv (i + 2))), (0, (sv (i + 3)))]) (st := []) (by first | decide | omega) (by first | decide | omega) (by first | decide | omega) rfl rfl (Nat.le_of_ble_eq_true rfl) (k_find E S G x (sv (i + 1)) (sv (i + 2)) (sv (i + 3)) hx (by first | decide | omega) (by first | decide | omega) (by first | decide | omega) (by first | decide | omega) (by first | decide | omega) (by first | decide | omega) ci t rc) ?_
  rintro _ _ _ ⟨rfl, ⟨G7, rfl⟩, rc5, z1, rfl, z1a, z1b, z1v⟩
  have ci8 : CI E S (hw [(128, 0)] G G7) := ci_hw ci rfl
  have mi9 : MI E (hw [(128, 0)] G G7) := mi_hwL mi rfl
  have rm6 : RelM E (hw [(128, 0)] G G7) t := relm_hwL rm rfl
  refine r_ex hX hP 6 (pc' := 1441) (st' := [(0, (i + 1)), (2, (b : Int)), (2, Ad E 1)]) (lo' := [(0, (2, (b : Int))), (1, (2, x)), (2, (2, Ad E 1)), (3, (0, i))]) rfl ?_
  refine scr_rd hs hP rfl (by first | decide | omega) (by first | decide | omega) ?_
  refine r_ex hX hP 4 (pc' := 1446) (st' := [(0, (i + 2)), (2, (b : Int)), (0, (sv (i + 1))), (2, Ad E 1)]) (lo' := [(0, (2, (b : Int))), (1, (2, x)), (2, (2, Ad E 1)), (3, (0, i))]) rfl ?_
  refine scr_rd hs hP rfl (by first | decide | omega) (by first | decide | omega) ?_
  refine r_ex hX hP 4 (pc' := 1451) (st' := [(0, (i + 3)), (2, (b : Int)), (0, (sv (i + 2))), (0, (sv (i + 1))), (2, Ad E 1)]) (lo' := [(0, (2, (b : Int))), (1, (2, x)), (2, (2, Ad E 1)), (3, (0, i))]) rfl ?_
  refine scr_rd hs hP rfl (by first | decide | omega) (by first | decide | omega) ?_
  have bb11 := hs.1 (i + 1)
  have bb12 := hs.1 (i + 2)
  have bb13 := hs.1 (i + 3)
  refine r_callV gd hX hP rfl cv_L_150_1 hm (d' := 2) (mc' := 0) (ms' := 0) (as' := [(0, (sv (i + 1))), (0, (sv (i + 2))), (0, (sv (i + 3)))]) (st := []) (by first | decide | omega) (by first | decide | omega) (by first | decide | omega) rfl rfl (Nat.le_of_ble_eq_true rfl) (l_find E S (hw [(128, 0)] G G7) (sv (i + 1)) (sv (i + 2)) (sv (i + 3)) hm (by first | decide | omega) (by first | decide | omega) (by first | decide | omega) (by first | decide | omega) (by first | decide | omega) (by first | decide | omega) t rm6) ?_
  rintro _ _ _ ⟨rfl, ⟨G17, rfl⟩, z10, rfl, z10a, z10b, z10v, rm15⟩
  refine r_ex hX hP 2 (pc' := 1661) (st' := []) (lo' := [(0, (2, (b : Int))), (1, (2, x)), (2, (2, Ad E 1)), (3, (0, i))]) rfl ?_
  exact kk _ _ _ _ (by first | decide | omega) (by first | decide | omega) hx hm (ci_hvL ci8 rfl) (mi_keep mi9 rfl rfl rfl rfl rfl rfl (fun _ => rfl) (fun _ => rfl) (fun _ => rfl) (fun _ => rfl) (fun _ => rfl) (fun _ => rfl) (fun _ => rfl) (fun _ => rfl) (fun _ => rfl) (fun _ => rfl) (fun _ => rfl) (fun _ => rfl) (fun _ => rfl)) ⟨_, (relc_frm ci8 rc5 (frm_hv rfl rfl)), rm15⟩
def PL31 : Cod := [(1459, .aload_n 1, 1), (1460, .aload_n 0, 1), (1461, .iload_n 3, 1), (1462, .iconst 1, 1), (1463, .iadd, 1), (1464, .iaload, 1), (1465, .aload_n 0, 1), (1466, .iload_n 3, 1), (1467, .iconst 2, 1), (1468, .iadd, 1), (1469, .iaload, 1), (1470, .aload_n 0, 1), (1471, .iload_n 3, 1), (1472, .iconst 3, 1), (1473, .iadd, 1), (1474, .iaload, 1), (1475, .aload_n 0, 1), (1476, .iload_n 3, 1), (1477, .iconst 4, 1), (1478, .iadd, 1), (1479, .iaload, 1), (1480, .aload_n 0, 1), (1481, .iload_n 3, 1), (1482, .iconst 5, 1), (1483, .iadd, 1), (1484, .iaload, 1), (1485, .aload_n 0, 1), (1486, .iload_n 3, 1), (1487, .bipush 6, 2), (1489, .iadd, 1), (1490, .iaload, 1), (1491, .ifCond .eq 7, 3), (1494, .iconst 1, 1), (1495, .goto 4, 3), (1498, .iconst 0, 1), (1499, .invokevirtual 151, 3), (1502, .pop, 1), (1503, .aload_n 2, 1), (1504, .aload_n 0, 1), (1505, .iload_n 3, 1), (1506, .iconst 1, 1), (1507, .iadd, 1), (1508, .iaload, 1), (1509, .aload_n 0, 1), (1510, .iload_n 3, 1), (1511, .iconst 2, 1), (1512, .iadd, 1), (1513, .iaload, 1), (1514, .aload_n 0, 1), (1515, .iload_n 3, 1), (1516, .iconst 3, 1), (1517, .iadd, 1), (1518, .iaload, 1), (1519, .aload_n 0, 1), (1520, .iload_n 3, 1), (1521, .iconst 4, 1), (1522, .iadd, 1), (1523, .iaload, 1), (1524, .aload_n 0, 1), (1525, .iload_n 3, 1), (1526, .iconst 5, 1), (1527, .iadd, 1), (1528, .iaload, 1), (1529, .aload_n 0, 1), (1530, .iload_n 3, 1), (1531, .bipush 6, 2), (1533, .iadd, 1), (1534, .iaload, 1), (1535, .ifCond .eq 7, 3), (1538, .iconst 1, 1), (1539, .goto 4, 3), (1542, .iconst 0, 1), (1543, .invokevirtual 155, 3), (1546, .pop, 1), (1547, .goto 114, 3)]
theorem hPL31 : Dec code PL31 := dec_of (by decide +kernel)
set_option maxRecDepth 100000 in
set_option maxHeartbeats 4000000 in
theorem law_31 {E : En} {nm : String} {as : List Vl} {mc ms : Nat} {Y : Option Vl → Sg → Gh → Prop} {X : Xp} {b L : Nat} {sv : Int → Int} (hX : Cl E (mL nm) as 840 mc ms Y X) (hs : Scr X b L sv) {cs ss : Nat} {S : Sg} {G : Gh} {x i : Int} (i0 : 0 ≤ i) (i1 : i + 8 ≤ L) (i2 : i ≤ 4096) (hx : S x = 128) (hm : S (Ad E 1) = 1) (ci : CI E S G) (mi : MI E G) (rel : ∃ t : Tz, RelC S G x t ∧ RelM E G t) (hc : cs + 704 ≤ mc) (hq : ss + 6964 ≤ ms) (kk : ∀ (cs' ss' : Nat) (S' : Sg) (G' : Gh), cs' ≤ cs + 704 → ss' ≤ ss + 6964 → S' x = 128 → S' (Ad E 1) = 1 → CI E S' G' → MI E G' → (∃ t : Tz, RelC S' G' x t ∧ RelM E G' t) → X cs' ss' 1661 [] [(0, (2, (b : Int))), (1, (2, x)), (2, (2, Ad E 1)), (3, (0, i))] S' G') : X cs ss 1459 [] [(0, (2, (b : Int))), (1, (2, x)), (2, (2, Ad E 1)), (3, (0, i))] S G := by
  have hP := hPL31
  obtain ⟨t, rc, rm⟩ := rel
  refine r_ex hX hP 5 (pc' := 1464) (st' := [(0, (i + 1)), (2, (b : Int)), (2, x)]) (lo' := [(0, (2, (b : Int))), (1, (2, x)), (2, (2, Ad E 1)), (3, (0, i))]) rfl ?_
  refine scr_rd hs hP rfl (by first | decide | omega) (by first | decide | omega) ?_
  refine r_ex hX hP 4 (pc' := 1469) (st' := [(0, (i + 2)), (2, (b : Int)), (0, (sv (i + 1))), (2, x)]) (lo' := [(0, (2, (b : Int))), (1, (2, x)), (2, (2, Ad E 1)), (3, (0, i))]) rfl ?_
  refine scr_rd hs hP rfl (by first | decide | omega) (by first | decide | omega) ?_
  refine r_ex hX hP 4 (pc' := 1474) (st' := [(0, (i + 3)), (2, (b : Int)), (0, (sv (i + 2))), (0, (sv (i + 1))), (2, x)]) (lo' := [(0, (2, (b : Int))), (1, (2, x)), (2, (2, Ad E 1)), (3, (0, i))]) rfl ?_
  refine scr_rd hs hP rfl (by first | decide | omega) (by first | decide | omega) ?_
  refine r_ex hX hP 4 (pc' := 1479) (st' := [(0, (i + 4)), (2, (b : Int)), (0, (sv (i + 3))), (0, (sv (i + 2))), (0, (sv (i + 1))), (2, x)]) (lo' := [(0, (2, (b : Int))), (1, (2, x)), (2, (2, Ad E 1)), (3, (0, i))]) rfl ?_
  refine scr_rd hs hP rfl (by first | decide | omega) (by first | decide | omega) ?_
  refine r_ex hX hP 4 (pc' := 1484) (st' := [(0, (i + 5)), (2, (b : Int)), (0, (sv (i + 4))), (0, (sv (i + 3))), (0, (sv (i + 2))), (0, (sv (i + 1))), (2, x)]) (lo' := [(0, (2, (b : Int))), (1, (2, x)), (2, (2, Ad E 1)), (3, (0, i))]) rfl ?_
  refine scr_rd hs hP rfl (by first | decide | omega) (by first | decide | omega) ?_
  refine r_ex hX hP 4 (pc' := 1490) (st' := [(0, (i + 6)), (2, (b : Int)), (0, (sv (i + 5))), (0, (sv (i + 4))), (0, (sv (i + 3))), (0, (sv (i + 2))), (0, (sv (i + 1))), (2, x)]) (lo' := [(0, (2, (b : Int))), (1, (2, x)), (2, (2, Ad E 1)), (3, (0, i))]) rfl ?_
  refine scr_rd hs hP rfl (by first | decide | omega) (by first | decide | omega) ?_
  have bb := hs.1 (i + 6)
  refine r_if_eq hX hP rfl (tgt := 1498) rfl (by first | decide | omega) (by first | decide | omega) (fun c1 => ?_) (fun c1 => ?_)
  · skip
    refine r_ex hX hP 1 (pc' := 1499) (st' := [(0, 0), (0, (sv (i + 5))), (0, (sv (i + 4))), (0, (sv (i + 3))), (0, (sv (i + 2))), (0, (sv (i + 1))), (2, x)]) (lo' := [(0, (2, (b : Int))), (1, (2, x)), (2, (2, Ad E 1)), (3, (0, i))]) rfl ?_
    have bb3 := hs.1 (i + 1)
    have bb4 := hs.1 (i + 2)
    have bb5 := hs.1 (i + 3)
    have bb6 := hs.1 (i + 4)
    have bb7 := hs.1 (i + 5)
    have bb8 := hs.1 (i + 6)
    refine r_callV gd hX hP rfl cv_L_151_128 hx (d' := 2) (mc' := 0) (ms' := 0) (as' := [(0, (sv (i + 1))), (0, (sv (i + 2))), (0, (sv (i + 3))), (0, (sv (i + 4))), (0, (sv (i + 5))), (0, 0)]) (st := []) (by first | decide | omega) (by first | decide | omega) (by first | decide | omega) rfl rfl (Nat.le_of_ble_eq_true rfl) (c_X11_hint E S G x (sv (i + 1)) (sv (i + 2)) (sv (i + 3)) (sv (i + 4)) (sv (i + 5)) 0 hx (by first | decide | omega) (by first | decide | omega) (by first | decide | omega) (by first | decide | omega) (by first | decide | omega) (by first | decide | omega) (by first | decide | omega) (by first | decide | omega) (by first | decide | omega) (by first | decide | omega) (by first | decide | omega) (by first | decide | omega)) ?_
    rintro _ _ _ ⟨rfl, ⟨G9, rfl⟩, z2, rfl, z2a, z2b⟩
    have ci10 : CI E S (hw [(108, -1), (109, -1), (110, -1), (128, 0), (132, 0)] G G9) := ci_hw ci rfl
    have mi11 : MI E (hw [(108, -1), (109, -1), (110, -1), (128, 0), (132, 0)] G G9) := mi_hwL mi rfl
    have rc12 : RelC S (hw [(108, -1), (109, -1), (110, -1), (128, 0), (132, 0)] G G9) x t := relc_frm ci rc (frm_hw rfl)
    have rm13 : RelM E (hw [(108, -1), (109, -1), (110, -1), (128, 0), (132, 0)] G G9) t := relm_hwL rm rfl
    refine r_ex hX hP 6 (pc' := 1508) (st' := [(0, (i + 1)), (2, (b : Int)), (2, Ad E 1)]) (lo' := [(0, (2, (b : Int))), (1, (2, x)), (2, (2, Ad E 1)), (3, (0, i))]) rfl ?_
    refine scr_rd hs hP rfl (by first | decide | omega) (by first | decide | omega) ?_
    refine r_ex hX hP 4 (pc' := 1513) (st' := [(0, (i + 2)), (2, (b : Int)), (0, (sv (i + 1))), (2, Ad E 1)]) (lo' := [(0, (2, (b : Int))), (1, (2, x)), (2, (2, Ad E 1)), (3, (0, i))]) rfl ?_
    refine scr_rd hs hP rfl (by first | decide | omega) (by first | decide | omega) ?_
    refine r_ex hX hP 4 (pc' := 1518) (st' := [(0, (i + 3)), (2, (b : Int)), (0, (sv (i + 2))), (0, (sv (i + 1))), (2, Ad E 1)]) (lo' := [(0, (2, (b : Int))), (1, (2, x)), (2, (2, Ad E 1)), (3, (0, i))]) rfl ?_
    refine scr_rd hs hP rfl (by first | decide | omega) (by first | decide | omega) ?_
    refine r_ex hX hP 4 (pc' := 1523) (st' := [(0, (i + 4)), (2, (b : Int)), (0, (sv (i + 3))), (0, (sv (i + 2))), (0, (sv (i + 1))), (2, Ad E 1)]) (lo' := [(0, (2, (b : Int))), (1, (2, x)), (2, (2, Ad E 1)), (3, (0, i))]) rfl ?_
    refine scr_rd hs hP rfl (by first | decide | omega) (by first | decide | omega) ?_
    refine r_ex hX hP 4 (pc' := 1528) (st' := [(0, (i + 5)), (2, (b : Int)), (0, (sv (i + 4))), (0, (sv (i + 3))), (0, (sv (i + 2))), (0, (sv (i + 1))), (2, Ad E 1)]) (lo' := [(0, (2, (b : Int))), (1, (2, x)), (2, (2, Ad E 1)), (3, (0, i))]) rfl ?_
    refine scr_rd hs hP rfl (by first | decide | omega) (by first | decide | omega) ?_
    refine r_ex hX hP 4 (pc' := 1534) (st' := [(0, (i + 6)), (2, (b : Int)), (0, (sv (i + 5))), (0, (sv (i + 4))), (0, (sv (i + 3))), (0, (sv (i + 2))), (0, (sv (i + 1))), (2, Ad E 1)]) (lo' := [(0, (2, (b : Int))), (1, (2, x)), (2, (2, Ad E 1)), (3, (0, i))]) rfl ?_
    refine scr_rd hs hP rfl (by first | decide | omega) (by first | decide | omega) ?_
    have bb := hs.1 (i + 6)
    refine r_if_eq hX hP rfl (tgt := 1542) rfl (by first | decide | omega) (by first | decide | omega) (fun c14 => ?_) (fun c14 => ?_)
    · skip
      refine r_ex hX hP 1 (pc' := 1543) (st' := [(0, 0), (0, (sv (i + 5))), (0, (sv (i + 4))), (0, (sv (i + 3))), (0, (sv (i + 2))), (0, (sv (i + 1))), (2, Ad E 1)]) (lo' := [(0, (2, (b : Int))), (1, (2, x)), (2, (2, Ad E 1)), (3, (0, i))]) rfl ?_
      have bb16 := hs.1 (i + 1)
      have bb17 := hs.1 (i + 2)
      have bb18 := hs.1 (i + 3)
      have bb19 := hs.1 (i + 4)
      have bb20 := hs.1 (i + 5)
      have bb21 := hs.1 (i + 6)
      refine r_peekI hX (tl1 13 rfl (by decide)) hm (fun v22 v22e v22a v22b => ?_)
      refine r_callV gd hX hP rfl cv_L_155_1 hm (d' := 2) (mc' := 0) (ms' := 0) (as' := [(0, (sv (i + 1))), (0, (sv (i + 2))), (0, (sv (i + 3))), (0, (sv (i + 4))), (0, (sv (i + 5))), (0, 0)]) (st := []) (by first | decide | omega) (by first | decide | omega) (by first | decide | omega) rfl rfl (Nat.le_of_ble_eq_true rfl) (c_X12_hint E S (hw [(108, -1), (109, -1), (110, -1), (128, 0), (132, 0)] G G9) (sv (i + 1)) (sv (i + 2)) (sv (i + 3)) (sv (i + 4)) (sv (i + 5)) 0 hm v22 v22e (by first | decide | omega) (by first | decide | omega) (by first | decide | omega) (by first | decide | omega) (by first | decide | omega) (by first | decide | omega) (by first | decide | omega) (by first | decide | omega) (by first | decide | omega) (by first | decide | omega) (by first | decide | omega) (by first | decide | omega) mi11) ?_
      rintro _ _ _ ⟨rfl, ⟨G23, rfl⟩, z15, rfl, z15a, z15b, mi24⟩
      refine r_ex hX hP 2 (pc' := 1661) (st' := []) (lo' := [(0, (2, (b : Int))), (1, (2, x)), (2, (2, Ad E 1)), (3, (0, i))]) rfl ?_
      exact kk _ _ _ _ (by first | decide | omega) (by first | decide | omega) hx hm (ci_hvL ci10 rfl) mi24 ⟨_, (relc_frm ci10 rc12 (frm_hv rfl rfl)), (relm_keep rm13 rfl rfl rfl rfl rfl rfl rfl rfl rfl rfl rfl rfl (fun _ => rfl) (fun _ => rfl) (fun _ => rfl) (fun _ => rfl) (fun _ => rfl) (fun _ => rfl) (fun _ => rfl) (fun _ => rfl) (fun _ => rfl))⟩
    · skip
      refine r_ex hX hP 2 (pc' := 1543) (st' := [(0, 1), (0, (sv (i + 5))), (0, (sv (i + 4))), (0, (sv (i + 3))), (0, (sv (i + 2))), (0, (sv (i + 1))), (2, Ad E 1)]) (lo' := [(0, (2, (b : Int))), (1, (2, x)), (2, (2, Ad E 1)), (3, (0, i))]) rfl ?_
      have bb26 := hs.1 (i + 1)
      have bb27 := hs.1 (i + 2)
      have bb28 := hs.1 (i + 3)
      have bb29 := hs.1 (i + 4)
      have bb30 := hs.1 (i + 5)
      have bb31 := hs.1 (i + 6)
      refine r_peekI hX (tl1 13 rfl (by decide)) hm (fun v32 v32e v32a v32b => ?_)
      refine r_callV gd hX hP rfl cv_L_155_1 hm (d' := 2) (mc' := 0) (ms' := 0) (as' := [(0, (sv (i + 1))), (0, (sv (i + 2))), (0, (sv (i + 3))), (0, (sv (i + 4))), (0, (sv (i + 5))), (0, 1)]) (st := []) (by first | decide | omega) (by first | decide | omega) (by first | decide | omega) rfl rfl (Nat.le_of_ble_eq_true rfl) (c_X12_hint E S (hw [(108, -1), (109, -1), (110, -1), (128, 0), (132, 0)] G G9) (sv (i + 1)) (sv (i + 2)) (sv (i + 3)) (sv (i + 4)) (sv (i + 5)) 1 hm v32 v32e (by first | decide | omega) (by first | decide | omega) (by first | decide | omega) (by first | decide | omega) (by first | decide | omega) (by first | decide | omega) (by first | decide | omega) (by first | decide | omega) (by first | decide | omega) (by first | decide | omega) (by first | decide | omega) (by first | decide | omega) mi11) ?_
      rintro _ _ _ ⟨rfl, ⟨G33, rfl⟩, z25, rfl, z25a, z25b, mi34⟩
      refine r_ex hX hP 2 (pc' := 1661) (st' := []) (lo' := [(0, (2, (b : Int))), (1, (2, x)), (2, (2, Ad E 1)), (3, (0, i))]) rfl ?_
      exact kk _ _ _ _ (by first | decide | omega) (by first | decide | omega) hx hm (ci_hvL ci10 rfl) mi34 ⟨_, (relc_frm ci10 rc12 (frm_hv rfl rfl)), (relm_keep rm13 rfl rfl rfl rfl rfl rfl rfl rfl rfl rfl rfl rfl (fun _ => rfl) (fun _ => rfl) (fun _ => rfl) (fun _ => rfl) (fun _ => rfl) (fun _ => rfl) (fun _ => rfl) (fun _ => rfl) (fun _ => rfl))⟩
  · skip
    refine r_ex hX hP 2 (pc' := 1499) (st' := [(0, 1), (0, (sv (i + 5))), (0, (sv (i + 4))), (0, (sv (i + 3))), (0, (sv (i + 2))), (0, (sv (i + 1))), (2, x)]) (lo' := [(0, (2, (b : Int))), (1, (2, x)), (2, (2, Ad E 1)), (3, (0, i))]) rfl ?_
    have bb36 := hs.1 (i + 1)
    have bb37 := hs.1 (i + 2)
    have bb38 := hs.1 (i + 3)
    have bb39 := hs.1 (i + 4)
    have bb40 := hs.1 (i + 5)
    have bb41 := hs.1 (i + 6)
    refine r_callV gd hX hP rfl cv_L_151_128 hx (d' := 2) (mc' := 0) (ms' := 0) (as' := [(0, (sv (i + 1))), (0, (sv (i + 2))), (0, (sv (i + 3))), (0, (sv (i + 4))), (0, (sv (i + 5))), (0, 1)]) (st := []) (by first | decide | omega) (by first | decide | omega) (by first | decide | omega) rfl rfl (Nat.le_of_ble_eq_true rfl) (c_X11_hint E S G x (sv (i + 1)) (sv (i + 2)) (sv (i + 3)) (sv (i + 4)) (sv (i + 5)) 1 hx (by first | decide | omega) (by first | decide | omega) (by first | decide | omega) (by first | decide | omega) (by first | decide | omega) (by first | decide | omega) (by first | decide | omega) (by first | decide | omega) (by first | decide | omega) (by first | decide | omega) (by first | decide | omega) (by first | decide | omega)) ?_
    rintro _ _ _ ⟨rfl, ⟨G42, rfl⟩, z35, rfl, z35a, z35b⟩
    have ci43 : CI E S (hw [(108, -1), (109, -1), (110, -1), (128, 0), (132, 0)] G G42) := ci_hw ci rfl
    have mi44 : MI E (hw [(108, -1), (109, -1), (110, -1), (128, 0), (132, 0)] G G42) := mi_hwL mi rfl
    have rc45 : RelC S (hw [(108, -1), (109, -1), (110, -1), (128, 0), (132, 0)] G G42) x t := relc_frm ci rc (frm_hw rfl)
    have rm46 : RelM E (hw [(108, -1), (109, -1), (110, -1), (128, 0), (132, 0)] G G42) t := relm_hwL rm rfl
    refine r_ex hX hP 6 (pc' := 1508) (st' := [(0, (i + 1)), (2, (b : Int)), (2, Ad E 1)]) (lo' := [(0, (2, (b : Int))), (1, (2, x)), (2, (2, Ad E 1)), (3, (0, i))]) rfl ?_
    refine scr_rd hs hP rfl (by first | decide | omega) (by first | decide | omega) ?_
    refine r_ex hX hP 4 (pc' := 1513) (st' := [(0, (i + 2)), (2, (b : Int)), (0, (sv (i + 1))), (2, Ad E 1)]) (lo' := [(0, (2, (b : Int))), (1, (2, x)), (2, (2, Ad E 1)), (3, (0, i))]) rfl ?_
    refine scr_rd hs hP rfl (by first | decide | omega) (by first | decide | omega) ?_
    refine r_ex hX hP 4 (pc' := 1518) (st' := [(0, (i + 3)), (2, (b : Int)), (0, (sv (i + 2))), (0, (sv (i + 1))), (2, Ad E 1)]) (lo' := [(0, (2, (b : Int))), (1, (2, x)), (2, (2, Ad E 1)), (3, (0, i))]) rfl ?_
    refine scr_rd hs hP rfl (by first | decide | omega) (by first | decide | omega) ?_
    refine r_ex hX hP 4 (pc' := 1523) (st' := [(0, (i + 4)), (2, (b : Int)), (0, (sv (i + 3))), (0, (sv (i + 2))), (0, (sv (i + 1))), (2, Ad E 1)]) (lo' := [(0, (2, (b : Int))), (1, (2, x)), (2, (2, Ad E 1)), (3, (0, i))]) rfl ?_
    refine scr_rd hs hP rfl (by first | decide | omega) (by first | decide | omega) ?_
    refine r_ex hX hP 4 (pc' := 1528) (st' := [(0, (i + 5)), (2, (b : Int)), (0, (sv (i + 4))), (0, (sv (i + 3))), (0, (sv (i + 2))), (0, (sv (i + 1))), (2, Ad E 1)]) (lo' := [(0, (2, (b : Int))), (1, (2, x)), (2, (2, Ad E 1)), (3, (0, i))]) rfl ?_
    refine scr_rd hs hP rfl (by first | decide | omega) (by first | decide | omega) ?_
    refine r_ex hX hP 4 (pc' := 1534) (st' := [(0, (i + 6)), (2, (b : Int)), (0, (sv (i + 5))), (0, (sv (i + 4))), (0, (sv (i + 3))), (0, (sv (i + 2))), (0, (sv (i + 1))), (2, Ad E 1)]) (lo' := [(0, (2, (b : Int))), (1, (2, x)), (2, (2, Ad E 1)), (3, (0, i))]) rfl ?_
    refine scr_rd hs hP rfl (by first | decide | omega) (by first | decide | omega) ?_
    have bb := hs.1 (i + 6)
    refine r_if_eq hX hP rfl (tgt := 1542) rfl (by first | decide | omega) (by first | decide | omega) (fun c47 => ?_) (fun c47 => ?_)
    · skip
      refine r_ex hX hP 1 (pc' := 1543) (st' := [(0, 0), (0, (sv (i + 5))), (0, (sv (i + 4))), (0, (sv (i + 3))), (0, (sv (i + 2))), (0, (sv (i + 1))), (2, Ad E 1)]) (lo' := [(0, (2, (b : Int))), (1, (2, x)), (2, (2, Ad E 1)), (3, (0, i))]) rfl ?_
      have bb49 := hs.1 (i + 1)
      have bb50 := hs.1 (i + 2)
      have bb51 := hs.1 (i + 3)
      have bb52 := hs.1 (i + 4)
      have bb53 := hs.1 (i + 5)
      have bb54 := hs.1 (i + 6)
      refine r_peekI hX (tl1 13 rfl (by decide)) hm (fun v55 v55e v55a v55b => ?_)
      refine r_callV gd hX hP rfl cv_L_155_1 hm (d' := 2) (mc' := 0) (ms' := 0) (as' := [(0, (sv (i + 1))), (0, (sv (i + 2))), (0, (sv (i + 3))), (0, (sv (i + 4))), (0, (sv (i + 5))), (0, 0)]) (st := []) (by first | decide | omega) (by first | decide | omega) (by first | decide | omega) rfl rfl (Nat.le_of_ble_eq_true rfl) (c_X12_hint E S (hw [(108, -1), (109, -1), (110, -1), (128, 0), (132, 0)] G G42) (sv (i + 1)) (sv (i + 2)) (sv (i + 3)) (sv (i + 4)) (sv (i + 5)) 0 hm v55 v55e (by first | decide | omega) (by first | decide | omega) (by first | decide | omega) (by first | decide | omega) (by first | decide | omega) (by first | decide | omega) (by first | decide | omega) (by first | decide | omega) (by first | decide | omega) (by first | decide | omega) (by first | decide | omega) (by first | decide | omega) mi44) ?_
      rintro _ _ _ ⟨rfl, ⟨G56, rfl⟩, z48, rfl, z48a, z48b, mi57⟩
      refine r_ex hX hP 2 (pc' := 1661) (st' := []) (lo' := [(0, (2, (b : Int))), (1, (2, x)), (2, (2, Ad E 1)), (3, (0, i))]) rfl ?_
      exact kk _ _ _ _ (by first | decide | omega) (by first | decide | omega) hx hm (ci_hvL ci43 rfl) mi57 ⟨_, (relc_frm ci43 rc45 (frm_hv rfl rfl)), (relm_keep rm46 rfl rfl rfl rfl rfl rfl rfl rfl rfl rfl rfl rfl (fun _ => rfl) (fun _ => rfl) (fun _ => rfl) (fun _ => rfl) (fun _ => rfl) (fun _ => rfl) (fun _ => rfl) (fun _ => rfl) (fun _ => rfl))⟩
    · skip
      refine r_ex hX hP 2 (pc' := 1543) (st' := [(0, 1), (0, (sv (i + 5))), (0, (sv (i + 4))), (0, (sv (i + 3))), (0, (sv (i + 2))), (0, (sv (i + 1))), (2, Ad E 1)]) (lo' := [(0, (2, (b : Int))), (1, (2, x)), (2, (2, Ad E 1)), (3, (0, i))]) rfl ?_
      have bb59 := hs.1 (i + 1)
      have bb60 := hs.1 (i + 2)
      have bb61 := hs.1 (i + 3)
      have bb62 := hs.1 (i + 4)
      have bb63 := hs.1 (i + 5)
      have bb64 := hs.1 (i + 6)
      refine r_peekI hX (tl1 13 rfl (by decide)) hm (fun v65 v65e v65a v65b => ?_)
      refine r_callV gd hX hP rfl cv_L_155_1 hm (d' := 2) (mc' := 0) (ms' := 0) (as' := [(0, (sv (i + 1))), (0, (sv (i + 2))), (0, (sv (i + 3))), (0, (sv (i + 4))), (0, (sv (i + 5))), (0, 1)]) (st := []) (by first | decide | omega) (by first | decide | omega) (by first | decide | omega) rfl rfl (Nat.le_of_ble_eq_true rfl) (c_X12_hint E S (hw [(108, -1), (109, -1), (110, -1), (128, 0), (132, 0)] G G42) (sv (i + 1)) (sv (i + 2)) (sv (i + 3)) (sv (i + 4)) (sv (i + 5)) 1 hm v65 v65e (by first | decide | omega) (by first | decide | omega) (by first | decide | omega) (by first | decide | omega) (by first | decide | omega) (by first | decide | omega) (by first | decide | omega) (by first | decide | omega) (by first | decide | omega) (by first | decide | omega) (by first | decide | omega) (by first | decide | omega) mi44) ?_
      rintro _ _ _ ⟨rfl, ⟨G66, rfl⟩, z58, rfl, z58a, z58b, mi67⟩
      refine r_ex hX hP 2 (pc' := 1661) (st' := []) (lo' := [(0, (2, (b : Int))), (1, (2, x)), (2, (2, Ad E 1)), (3, (0, i))]) rfl ?_
      exact kk _ _ _ _ (by first | decide | omega) (by first | decide | omega) hx hm (ci_hvL ci43 rfl) mi67 ⟨_, (relc_frm ci43 rc45 (frm_hv rfl rfl)), (relm_keep rm46 rfl rfl rfl rfl rfl rfl rfl rfl rfl rfl rfl rfl (fun _ => rfl) (fun _ => rfl) (fun _ => rfl) (fun _ => rfl) (fun _ => rfl) (fun _ => rfl) (fun _ => rfl) (fun _ => rfl) (fun _ => rfl))⟩
def PL32 : Cod := [(1550, .aload_n 1, 1), (1551, .aload_n 0, 1), (1552, .iload_n 3, 1), (1553, .iconst 1, 1), (1554, .iadd, 1), (1555, .iaload, 1), (1556, .aload_n 0, 1), (1557, .iload_n 3, 1), (1558, .iconst 2, 1), (1559, .iadd, 1), (1560, .iaload, 1), (1561, .aload_n 0, 1), (1562, .iload_n 3, 1), (1563, .iconst 3, 1), (1564, .iadd, 1), (1565, .iaload, 1), (1566, .aload_n 0, 1), (1567, .iload_n 3, 1), (1568, .iconst 4, 1), (1569, .iadd, 1), (1570, .iaload, 1), (1571, .aload_n 0, 1), (1572, .iload_n 3, 1), (1573, .iconst 5, 1), (1574, .iadd, 1), (1575, .iaload, 1), (1576, .aload_n 0, 1), (1577, .iload_n 3, 1), (1578, .bipush 6, 2), (1580, .iadd, 1), (1581, .iaload, 1), (1582, .invokevirtual 156, 3), (1585, .pop, 1), (1586, .aload_n 2, 1), (1587, .aload_n 0, 1), (1588, .iload_n 3, 1), (1589, .iconst 1, 1), (1590, .iadd, 1), (1591, .iaload, 1), (1592, .aload_n 0, 1), (1593, .iload_n 3, 1), (1594, .iconst 2, 1), (1595, .iadd, 1), (1596, .iaload, 1), (1597, .aload_n 0, 1), (1598, .iload_n 3, 1), (1599, .iconst 3, 1), (1600, .iadd, 1), (1601, .iaload, 1), (1602, .aload_n 0, 1), (1603, .iload_n 3, 1), (1604, .iconst 4, 1), (1605, .iadd, 1), (1606, .iaload, 1), (1607, .aload_n 0, 1), (1608, .iload_n 3, 1), (1609, .iconst 5, 1), (1610, .iadd, 1), (1611, .iaload, 1), (1612, .aload_n 0, 1), (1613, .iload_n 3, 1), (1614, .bipush 6, 2), (1616, .iadd, 1), (1617, .iaload, 1), (1618, .invokevirtual 159, 3), (1621, .pop, 1), (1622, .goto 39, 3)]
theorem hPL32 : Dec code PL32 := dec_of (by decide +kernel)
set_option maxRecDepth 100000 in
set_option maxHeartbeats 4000000 in
theorem law_32 {E : En} {nm : String} {as : List Vl} {mc ms : Nat} {Y : Option Vl → Sg → Gh → Prop} {X : Xp} {b L : Nat} {sv : Int → Int} (hX : Cl E (mL nm) as 840 mc ms Y X) (hs : Scr X b L sv) {cs ss : Nat} {S : Sg} {G : Gh} {x i : Int} (i0 : 0 ≤ i) (i1 : i + 8 ≤ L) (i2 : i ≤ 4096) (hx : S x = 128) (hm : S (Ad E 1) = 1) (ci : CI E S G) (mi : MI E G) (rel : ∃ t : Tz, RelC S G x t ∧ RelM E G t) (hc : cs + 704 ≤ mc) (hq : ss + 6964 ≤ ms) (kk : ∀ (cs' ss' : Nat) (S' : Sg) (G' : Gh), cs' ≤ cs + 704 → ss' ≤ ss + 6964 → S' x = 128 → S' (Ad E 1) = 1 → CI E S' G' → MI E G' → (∃ t : Tz, RelC S' G' x t ∧ RelM E G' t) → X cs' ss' 1661 [] [(0, (2, (b : Int))), (1, (2, x)), (2, (2, Ad E 1)), (3, (0, i))] S' G') : X cs ss 1550 [] [(0, (2, (b : Int))), (1, (2, x)), (2, (2, Ad E 1)), (3, (0, i))] S G := by
  have hP := hPL32
  obtain ⟨t, rc, rm⟩ := rel
  refine r_ex hX hP 5 (pc' := 1555) (st' := [(0, (i + 1)), (2, (b : Int)), (2, x)]) (lo' := [(0, (2, (b : Int))), (1, (2, x)), (2, (2, Ad E 1)), (3, (0, i))]) rfl ?_
  refine scr_rd hs hP rfl (by first | decide | omega) (by first | decide | omega) ?_
  refine r_ex hX hP 4 (pc' := 1560) (st' := [(0, (i + 2)), (2, (b : Int)), (0, (sv (i + 1))), (2, x)]) (lo' := [(0, (2, (b : Int))), (1, (2, x)), (2, (2, Ad E 1)), (3, (0, i))]) rfl ?_
  refine scr_rd hs hP rfl (by first | decide | omega) (by first | decide | omega) ?_
  refine r_ex hX hP 4 (pc' := 1565) (st' := [(0, (i + 3)), (2, (b : Int)), (0, (sv (i + 2))), (0, (sv (i + 1))), (2, x)]) (lo' := [(0, (2, (b : Int))), (1, (2, x)), (2, (2, Ad E 1)), (3, (0, i))]) rfl ?_
  refine scr_rd hs hP rfl (by first | decide | omega) (by first | decide | omega) ?_
  refine r_ex hX hP 4 (pc' := 1570) (st' := [(0, (i + 4)), (2, (b : Int)), (0, (sv (i + 3))), (0, (sv (i + 2))), (0, (sv (i + 1))), (2, x)]) (lo' := [(0, (2, (b : Int))), (1, (2, x)), (2, (2, Ad E 1)), (3, (0, i))]) rfl ?_
  refine scr_rd hs hP rfl (by first | decide | omega) (by first | decide | omega) ?_
  refine r_ex hX hP 4 (pc' := 1575) (st' := [(0, (i + 5)), (2, (b : Int)), (0, (sv (i + 4))), (0, (sv (i + 3))), (0, (sv (i + 2))), (0, (sv (i + 1))), (2, x)]) (lo' := [(0, (2, (b : Int))), (1, (2, x)), (2, (2, Ad E 1)), (3, (0, i))]) rfl ?_
  refine scr_rd hs hP rfl (by first | decide | omega) (by first | decide | omega) ?_
  refine r_ex hX hP 4 (pc' := 1581) (st' := [(0, (i + 6)), (2, (b : Int)), (0, (sv (i + 5))), (0, (sv (i + 4))), (0, (sv (i + 3))), (0, (sv (i + 2))), (0, (sv (i + 1))), (2, x)]) (lo' := [(0, (2, (b : Int))), (1, (2, x)), (2, (2, Ad E 1)), (3, (0, i))]) rfl ?_
  refine scr_rd hs hP rfl (by first | decide | omega) (by first | decide | omega) ?_
  have bb2 := hs.1 (i + 1)
  have bb3 := hs.1 (i + 2)
  have bb4 := hs.1 (i + 3)
  have bb5 := hs.1 (i + 4)
  have bb6 := hs.1 (i + 5)
  have bb7 := hs.1 (i + 6)
  refine r_callV gd hX hP rfl cv_L_156_128 hx (d' := 3) (mc' := 0) (ms' := 0) (as' := [(0, (sv (i + 1))), (0, (sv (i + 2))), (0, (sv (i + 3))), (0, (sv (i + 4))), (0, (sv (i + 5))), (0, (sv (i + 6)))]) (st := []) (by first | decide | omega) (by first | decide | omega) (by first | decide | omega) rfl rfl (Nat.le_of_ble_eq_true rfl) (c_X11_explain E S G x (sv (i + 1)) (sv (i + 2)) (sv (i + 3)) (sv (i + 4)) (sv (i + 5)) (sv (i + 6)) hx (by first | decide | omega) (by first | decide | omega) (by first | decide | omega) (by first | decide | omega) (by first | decide | omega) (by first | decide | omega) (by first | decide | omega) (by first | decide | omega) (by first | decide | omega) (by first | decide | omega) (by first | decide | omega) (by first | decide | omega)) ?_
  rintro _ _ _ ⟨rfl, ⟨G8, rfl⟩, z1, rfl, z1a, z1b⟩
  have ci9 : CI E S (hw [(111, -1), (112, -1), (113, -1), (128, 0), (132, 1), (132, 2), (132, 3), (132, 4), (132, 12)] G G8) := ci_hw ci rfl
  have mi10 : MI E (hw [(111, -1), (112, -1), (113, -1), (128, 0), (132, 1), (132, 2), (132, 3), (132, 4), (132, 12)] G G8) := mi_hwL mi rfl
  have rc11 : RelC S (hw [(111, -1), (112, -1), (113, -1), (128, 0), (132, 1), (132, 2), (132, 3), (132, 4), (132, 12)] G G8) x t := relc_frm ci rc (frm_hw rfl)
  have rm12 : RelM E (hw [(111, -1), (112, -1), (113, -1), (128, 0), (132, 1), (132, 2), (132, 3), (132, 4), (132, 12)] G G8) t := relm_hwL rm rfl
  refine r_ex hX hP 6 (pc' := 1591) (st' := [(0, (i + 1)), (2, (b : Int)), (2, Ad E 1)]) (lo' := [(0, (2, (b : Int))), (1, (2, x)), (2, (2, Ad E 1)), (3, (0, i))]) rfl ?_
  refine scr_rd hs hP rfl (by first | decide | omega) (by first | decide | omega) ?_
  refine r_ex hX hP 4 (pc' := 1596) (st' := [(0, (i + 2)), (2, (b : Int)), (0, (sv (i + 1))), (2, Ad E 1)]) (lo' := [(0, (2, (b : Int))), (1, (2, x)), (2, (2, Ad E 1)), (3, (0, i))]) rfl ?_
  refine scr_rd hs hP rfl (by first | decide | omega) (by first | decide | omega) ?_
  refine r_ex hX hP 4 (pc' := 1601) (st' := [(0, (i + 3)), (2, (b : Int)), (0, (sv (i + 2))), (0, (sv (i + 1))), (2, Ad E 1)]) (lo' := [(0, (2, (b : Int))), (1, (2, x)), (2, (2, Ad E 1)), (3, (0, i))]) rfl ?_
  refine scr_rd hs hP rfl (by first | decide | omega) (by first | decide | omega) ?_
  refine r_ex hX hP 4 (pc' := 1606) (st' := [(0, (i + 4)), (2, (b : Int)), (0, (sv (i + 3))), (0, (sv (i + 2))), (0, (sv (i + 1))), (2, Ad E 1)]) (lo' := [(0, (2, (b : Int))), (1, (2, x)), (2, (2, Ad E 1)), (3, (0, i))]) rfl ?_
  refine scr_rd hs hP rfl (by first | decide | omega) (by first | decide | omega) ?_
  refine r_ex hX hP 4 (pc' := 1611) (st' := [(0, (i + 5)), (2, (b : Int)), (0, (sv (i + 4))), (0, (sv (i + 3))), (0, (sv (i + 2))), (0, (sv (i + 1))), (2, Ad E 1)]) (lo' := [(0, (2, (b : Int))), (1, (2, x)), (2, (2, Ad E 1)), (3, (0, i))]) rfl ?_
  refine scr_rd hs hP rfl (by first | decide | omega) (by first | decide | omega) ?_
  refine r_ex hX hP 4 (pc' := 1617) (st' := [(0, (i + 6)), (2, (b : Int)), (0, (sv (i + 5))), (0, (sv (i + 4))), (0, (sv (i + 3))), (0, (sv (i + 2))), (0, (sv (i + 1))), (2, Ad E 1)]) (lo' := [(0, (2, (b : Int))), (1, (2, x)), (2, (2, Ad E 1)), (3, (0, i))]) rfl ?_
  refine scr_rd hs hP rfl (by first | decide | omega) (by first | decide | omega) ?_
  have bb14 := hs.1 (i + 1)
  have bb15 := hs.1 (i + 2)
  have bb16 := hs.1 (i + 3)
  have bb17 := hs.1 (i + 4)
  have bb18 := hs.1 (i + 5)
  have bb19 := hs.1 (i + 6)
  refine r_callV gd hX hP rfl cv_L_159_1 hm (d' := 2) (mc' := 0) (ms' := 0) (as' := [(0, (sv (i + 1))), (0, (sv (i + 2))), (0, (sv (i + 3))), (0, (sv (i + 4))), (0, (sv (i + 5))), (0, (sv (i + 6)))]) (st := []) (by first | decide | omega) (by first | decide | omega) (by first | decide | omega) rfl rfl (Nat.le_of_ble_eq_true rfl) (c_X12_explain E S (hw [(111, -1), (112, -1), (113, -1), (128, 0), (132, 1), (132, 2), (132, 3), (132, 4), (132, 12)] G G8) (sv (i + 1)) (sv (i + 2)) (sv (i + 3)) (sv (i + 4)) (sv (i + 5)) (sv (i + 6)) hm (by first | decide | omega) (by first | decide | omega) (by first | decide | omega) (by first | decide | omega) (by first | decide | omega) (by first | decide | omega) (by first | decide | omega) (by first | decide | omega) (by first | decide | omega) (by first | decide | omega) (by first | decide | omega) (by first | decide | omega) mi10) ?_
  rintro _ _ _ ⟨rfl, ⟨G20, rfl⟩, z13, rfl, z13a, z13b⟩
  refine r_ex hX hP 2 (pc' := 1661) (st' := []) (lo' := [(0, (2, (b : Int))), (1, (2, x)), (2, (2, Ad E 1)), (3, (0, i))]) rfl ?_
  exact kk _ _ _ _ (by first | decide | omega) (by first | decide | omega) hx hm (ci_hvL ci9 rfl) (mi_keep mi10 rfl rfl rfl rfl rfl rfl (fun _ => rfl) (fun _ => rfl) (fun _ => rfl) (fun _ => rfl) (fun _ => rfl) (fun _ => rfl) (fun _ => rfl) (fun _ => rfl) (fun _ => rfl) (fun _ => rfl) (fun _ => rfl) (fun _ => rfl) (fun _ => rfl)) ⟨_, (relc_frm ci9 rc11 (frm_hv rfl rfl)), (relm_keep rm12 rfl rfl rfl rfl rfl rfl rfl rfl rfl rfl rfl rfl (fun _ => rfl) (fun _ => rfl) (fun _ => rfl) (fun _ => rfl) (fun _ => rfl) (fun _ => rfl) (fun _ => rfl) (fun _ => rfl) (fun _ => rfl))⟩
def PL33 : Cod := [(1625, .aload_n 1, 1), (1626, .invokevirtual 160, 3), (1629, .pop, 1), (1630, .aload_n 2, 1), (1631, .invokevirtual 163, 3), (1634, .pop, 1), (1635, .goto 26, 3)]
theorem hPL33 : Dec code PL33 := dec_of (by decide +kernel)
set_option maxRecDepth 100000 in
set_option maxHeartbeats 4000000 in
theorem law_33 {E : En} {nm : String} {as : List Vl} {mc ms : Nat} {Y : Option Vl → Sg → Gh → Prop} {X : Xp} {b L : Nat} {sv : Int → Int} (hX : Cl E (mL nm) as 840 mc ms Y X) (hs : Scr X b L sv) {cs ss : Nat} {S : Sg} {G : Gh} {x i : Int} (i0 : 0 ≤ i) (i1 : i + 8 ≤ L) (i2 : i ≤ 4096) (hx : S x = 128) (hm : S (Ad E 1) = 1) (ci : CI E S G) (mi : MI E G) (rel : ∃ t : Tz, RelC S G x t ∧ RelM E G t) (hc : cs + 704 ≤ mc) (hq : ss + 6964 ≤ ms) (kk : ∀ (cs' ss' : Nat) (S' : Sg) (G' : Gh), cs' ≤ cs + 704 → ss' ≤ ss + 6964 → S' x = 128 → S' (Ad E 1) = 1 → CI E S' G' → MI E G' → (∃ t : Tz, RelC S' G' x t ∧ RelM E G' t) → X cs' ss' 1661 [] [(0, (2, (b : Int))), (1, (2, x)), (2, (2, Ad E 1)), (3, (0, i))] S' G') : X cs ss 1625 [] [(0, (2, (b : Int))), (1, (2, x)), (2, (2, Ad E 1)), (3, (0, i))] S G := by
  have hP := hPL33
  obtain ⟨t, rc, rm⟩ := rel
  refine r_ex hX hP 1 (pc' := 1626) (st' := [(2, x)]) (lo' := [(0, (2, (b : Int))), (1, (2, x)), (2, (2, Ad E 1)), (3, (0, i))]) rfl ?_
  refine r_callV gd hX hP rfl cv_L_160_128 hx (d' := 1) (mc' := 0) (ms' := 0) (as' := []) (st := []) (by first | decide | omega) (by first | decide | omega) (by first | decide | omega) rfl rfl (Nat.le_of_ble_eq_true rfl) (c_X11_rivals E S G x  hx) ?_
  rintro _ _ _ ⟨rfl, ⟨G2, rfl⟩, z1, rfl, z1a, z1b⟩
  have ci3 : CI E S (hw [(128, 0)] G G2) := ci_hw ci rfl
  have mi4 : MI E (hw [(128, 0)] G G2) := mi_hwL mi rfl
  have rc5 : RelC S (hw [(128, 0)] G G2) x t := relc_frm ci rc (frm_hw rfl)
  have rm6 : RelM E (hw [(128, 0)] G G2) t := relm_hwL rm rfl
  refine r_ex hX hP 2 (pc' := 1631) (st' := [(2, Ad E 1)]) (lo' := [(0, (2, (b : Int))), (1, (2, x)), (2, (2, Ad E 1)), (3, (0, i))]) rfl ?_
  refine r_callV gd hX hP rfl cv_L_163_1 hm (d' := 1) (mc' := 0) (ms' := 0) (as' := []) (st := []) (by first | decide | omega) (by first | decide | omega) (by first | decide | omega) rfl rfl (Nat.le_of_ble_eq_true rfl) (c_X12_rivals E S (hw [(128, 0)] G G2)  hm) ?_
  rintro _ _ _ ⟨rfl, ⟨G8, rfl⟩, z7, rfl, z7a, z7b⟩
  refine r_ex hX hP 2 (pc' := 1661) (st' := []) (lo' := [(0, (2, (b : Int))), (1, (2, x)), (2, (2, Ad E 1)), (3, (0, i))]) rfl ?_
  exact kk _ _ _ _ (by first | decide | omega) (by first | decide | omega) hx hm (ci_hvL ci3 rfl) (mi_keep mi4 rfl rfl rfl rfl rfl rfl (fun _ => rfl) (fun _ => rfl) (fun _ => rfl) (fun _ => rfl) (fun _ => rfl) (fun _ => rfl) (fun _ => rfl) (fun _ => rfl) (fun _ => rfl) (fun _ => rfl) (fun _ => rfl) (fun _ => rfl) (fun _ => rfl)) ⟨_, (relc_frm ci3 rc5 (frm_hv rfl rfl)), (relm_keep rm6 rfl rfl rfl rfl rfl rfl rfl rfl rfl rfl rfl rfl (fun _ => rfl) (fun _ => rfl) (fun _ => rfl) (fun _ => rfl) (fun _ => rfl) (fun _ => rfl) (fun _ => rfl) (fun _ => rfl) (fun _ => rfl))⟩
def PL34 : Cod := [(1638, .aload_n 1, 1), (1639, .aload_n 0, 1), (1640, .iload_n 3, 1), (1641, .iconst 1, 1), (1642, .iadd, 1), (1643, .iaload, 1), (1644, .invokevirtual 164, 3), (1647, .pop, 1), (1648, .aload_n 2, 1), (1649, .aload_n 0, 1), (1650, .iload_n 3, 1), (1651, .iconst 1, 1), (1652, .iadd, 1), (1653, .iaload, 1), (1654, .invokevirtual 167, 3), (1657, .pop, 1), (1658, .goto 3, 3)]
theorem hPL34 : Dec code PL34 := dec_of (by decide +kernel)
set_option maxRecDepth 100000 in
set_option maxHeartbeats 4000000 in
theorem law_34 {E : En} {nm : String} {as : List Vl} {mc ms : Nat} {Y : Option Vl → Sg → Gh → Prop} {X : Xp} {b L : Nat} {sv : Int → Int} (hX : Cl E (mL nm) as 840 mc ms Y X) (hs : Scr X b L sv) {cs ss : Nat} {S : Sg} {G : Gh} {x i : Int} (i0 : 0 ≤ i) (i1 : i + 8 ≤ L) (i2 : i ≤ 4096) (hx : S x = 128) (hm : S (Ad E 1) = 1) (ci : CI E S G) (mi : MI E G) (rel : ∃ t : Tz, RelC S G x t ∧ RelM E G t) (hc : cs + 704 ≤ mc) (hq : ss + 6964 ≤ ms) (kk : ∀ (cs' ss' : Nat) (S' : Sg) (G' : Gh), cs' ≤ cs + 704 → ss' ≤ ss + 6964 → S' x = 128 → S' (Ad E 1) = 1 → CI E S' G' → MI E G' → (∃ t : Tz, RelC S' G' x t ∧ RelM E G' t) → X cs' ss' 1661 [] [(0, (2, (b : Int))), (1, (2, x)), (2, (2, Ad E 1)), (3, (0, i))] S' G') : X cs ss 1638 [] [(0, (2, (b : Int))), (1, (2, x)), (2, (2, Ad E 1)), (3, (0, i))] S G := by
  have hP := hPL34
  obtain ⟨t, rc, rm⟩ := rel
  refine r_ex hX hP 5 (pc' := 1643) (st' := [(0, (i + 1)), (2, (b : Int)), (2, x)]) (lo' := [(0, (2, (b : Int))), (1, (2, x)), (2, (2, Ad E 1)), (3, (0, i))]) rfl ?_
  refine scr_rd hs hP rfl (by first | decide | omega) (by first | decide | omega) ?_
  have bb2 := hs.1 (i + 1)
  refine r_callV gd hX hP rfl cv_L_164_128 hx (d' := 1) (mc' := 0) (ms' := 0) (as' := [(0, (sv (i + 1)))]) (st := []) (by first | decide | omega) (by first | decide | omega) (by first | decide | omega) rfl rfl (Nat.le_of_ble_eq_true rfl) (c_X11_because E S G x (sv (i + 1)) hx (by first | decide | omega) (by first | decide | omega)) ?_
  rintro _ _ _ ⟨rfl, ⟨G3, rfl⟩, z1, rfl, z1a, z1b⟩
  have ci4 : CI E S (hw [(128, 0)] G G3) := ci_hw ci rfl
  have mi5 : MI E (hw [(128, 0)] G G3) := mi_hwL mi rfl
  have rc6 : RelC S (hw [(128, 0)] G G3) x t := relc_frm ci rc (frm_hw rfl)
  have rm7 : RelM E (hw [(128, 0)] G G3) t := relm_hwL rm rfl
  refine r_ex hX hP 6 (pc' := 1653) (st' := [(0, (i + 1)), (2, (b : Int)), (2, Ad E 1)]) (lo' := [(0, (2, (b : Int))), (1, (2, x)), (2, (2, Ad E 1)), (3, (0, i))]) rfl ?_
  refine scr_rd hs hP rfl (by first | decide | omega) (by first | decide | omega) ?_
  have bb9 := hs.1 (i + 1)
  refine r_callV gd hX hP rfl cv_L_167_1 hm (d' := 1) (mc' := 0) (ms' := 0) (as' := [(0, (sv (i + 1)))]) (st := []) (by first | decide | omega) (by first | decide | omega) (by first | decide | omega) rfl rfl (Nat.le_of_ble_eq_true rfl) (c_X12_because E S (hw [(128, 0)] G G3) (sv (i + 1)) hm (by first | decide | omega) (by first | decide | omega)) ?_
  rintro _ _ _ ⟨rfl, ⟨G10, rfl⟩, z8, rfl, z8a, z8b⟩
  refine r_ex hX hP 2 (pc' := 1661) (st' := []) (lo' := [(0, (2, (b : Int))), (1, (2, x)), (2, (2, Ad E 1)), (3, (0, i))]) rfl ?_
  exact kk _ _ _ _ (by first | decide | omega) (by first | decide | omega) hx hm (ci_hvL ci4 rfl) (mi_keep mi5 rfl rfl rfl rfl rfl rfl (fun _ => rfl) (fun _ => rfl) (fun _ => rfl) (fun _ => rfl) (fun _ => rfl) (fun _ => rfl) (fun _ => rfl) (fun _ => rfl) (fun _ => rfl) (fun _ => rfl) (fun _ => rfl) (fun _ => rfl) (fun _ => rfl)) ⟨_, (relc_frm ci4 rc6 (frm_hv rfl rfl)), (relm_keep rm7 rfl rfl rfl rfl rfl rfl rfl rfl rfl rfl rfl rfl (fun _ => rfl) (fun _ => rfl) (fun _ => rfl) (fun _ => rfl) (fun _ => rfl) (fun _ => rfl) (fun _ => rfl) (fun _ => rfl) (fun _ => rfl))⟩
