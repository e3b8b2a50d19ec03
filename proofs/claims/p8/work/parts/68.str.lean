section RUS
variable {E : En} {M : Mk} {as : List Vl} {d mc ms : Nat} {Y : Option Vl → Sg → Gh → Prop} {X : Xp} {cs ss : Nat} {S : Sg} {G : Gh} {P : Cod} {pc tgt idx : Nat} {st : List Vl} {lo : Lo} {x y off a L : Int}
/-- a text constant; its bytes -/
def sK (E : En) (k : Nat) : Int := (ksK E k : Nat)
def sV (E : En) (k : Nat) : Int := (ksV E k : Nat)
theorem tvN (n : Nat) : tv (2, (n : Int)) = .ref n := tv2 (Int.natCast_nonneg n)
theorem kS {z : State} (hK : Kw E z) : vk_S 20 ksL ksB (ksK E) (ksV E) (fun q => E.2.2.2.1 ≤ q) z E.2.2.2.2.1 := hK.2.2.2.2.2.2.2.2.2.2.2
theorem kS_at {z : State} {H : Heap} (hK : Kw E z) (hR : rep E S G H) : vk_S 20 ksL ksB (ksK E) (ksV E) (fun q => E.2.2.2.1 ≤ q) z H := (kS hK).kept (fun a _ ha => hR.2.1 a (by first | decide | omega))
theorem r_ldcS (hX : Cl E M as d mc ms Y X) (hP : Dec M.2.1 P) (hf : fd P pc = some (.ldc idx, 2)) {k : Nat} (hk : k < 20) (hi : ksI.getD k 0 = idx) (hc : M.1.cls = "ShareLife$Reader") (kk : X cs ss (pc + 2) ((2, sK E k) :: st) lo S G) : X cs ss pc st lo S G := by
  obtain ⟨p, e, z, m, below, meth, c, hx, hb, hr, hml, hown, hlk, hnm, hts, hK, rfl⟩ := hX
  intro H locs ls hR hz hL hl
  have kk := kk H locs ls hR hz hL hl
  simp only [ts, List.map_cons] at kk
  rw [show tv (2, sK E k) = .ref (ksK E k) from tvN _] at kk
  subst hi
  rw [hc] at hown
  exact va_ldcS hx hb hown (hK.2.2.2.2.2.2.2.2.2.2.1 k hk) (fd_dec hP hf) kk
theorem r_sget (hX : Cl E M as d mc ms Y X) (hP : Dec M.2.1 P) (hf : fd P pc = some (.getfield idx, 3)) {k : Nat} (hk : k < 20) (w1 : Cond.fieldLink M.1.cls idx "java/lang/String" "value" "[B" ∈ tb) (kk : X cs ss (pc + 3) ((2, sV E k) :: st) lo S G) : X cs ss pc ((2, sK E k) :: st) lo S G := by
  obtain ⟨p, e, z, m, below, meth, c, hx, hb, hr, hml, hown, hlk, hnm, hts, hK, rfl⟩ := hX
  intro H locs ls hR hz hL hl
  have kk := kk H locs ls hR hz hL hl
  simp only [ts, List.map_cons] at kk ⊢
  rw [show tv (2, sV E k) = .ref (ksV E k) from tvN _] at kk
  rw [show tv (2, sK E k) = .ref (ksK E k) from tvN _]
  obtain ⟨cf, kf, fi, f, cell, h1, h2, h3, h4, h5, h6⟩ := ((kS_at hK hR).1 k hk).2.2.1
  exact W.getf hx hb hown (hts _ w1) h1 h2 h3 h4 (v := .ref (ksV E k)) h5 rfl rfl (fd_dec hP hf) kk
theorem r_sgetc (hX : Cl E M as d mc ms Y X) (hP : Dec M.2.1 P) (hf : fd P pc = some (.getfield idx, 3)) {k : Nat} (hk : k < 20) (w1 : Cond.fieldLink M.1.cls idx "java/lang/String" "coder" "B" ∈ tb) (kk : X cs ss (pc + 3) ((0, 0) :: st) lo S G) : X cs ss pc ((2, sK E k) :: st) lo S G := by
  obtain ⟨p, e, z, m, below, meth, c, hx, hb, hr, hml, hown, hlk, hnm, hts, hK, rfl⟩ := hX
  intro H locs ls hR hz hL hl
  have kk := kk H locs ls hR hz hL hl
  simp only [ts, List.map_cons] at kk ⊢
  rw [show tv (2, sK E k) = .ref (ksK E k) from tvN _]
  obtain ⟨cf, kf, fi, f, cell, h1, h2, h3, h4, h5, h6⟩ := ((kS_at hK hR).1 k hk).2.1
  exact W.getf hx hb hown (hts _ w1) h1 h2 h3 h4 (v := .int 0) h5 rfl rfl (fd_dec hP hf) kk
theorem r_salen (hX : Cl E M as d mc ms Y X) (hP : Dec M.2.1 P) (hf : fd P pc = some (.arraylength, 1)) {k : Nat} (hk : k < 20) (kk : X cs ss (pc + 1) ((0, (ksL.getD k 0 : Nat)) :: st) lo S G) : X cs ss pc ((2, sV E k) :: st) lo S G := by
  obtain ⟨p, e, z, m, below, meth, c, hx, hb, hr, hml, hown, hlk, hnm, hts, hK, rfl⟩ := hX
  intro H locs ls hR hz hL hl
  have kk := kk H locs ls hR hz hL hl
  simp only [ts, List.map_cons] at kk ⊢
  rw [show tv (2, sV E k) = .ref (ksV E k) from tvN _]
  obtain ⟨cell, h1, h2, h3, h4, h5, h6, h7⟩ := ((kS_at hK hR).1 k hk).2.2.2
  exact W.alen (n := Int32.ofNat (ksL.getD k 0)) hx hb h1 h2 h5 rfl rfl (fd_dec hP hf) kk
theorem r_getsC (hX : Cl E M as d mc ms Y X) (hP : Dec M.2.1 P) (hf : fd P pc = some (.getstatic idx, 3)) (w1 : Cond.fieldLink M.1.cls idx "java/lang/String" "COMPACT_STRINGS" "Z" ∈ tb) (kk : X cs ss (pc + 3) ((0, 1) :: st) lo S G) : X cs ss pc st lo S G := by
  obtain ⟨p, e, z, m, below, meth, c, hx, hb, hr, hml, hown, hlk, hnm, hts, hK, rfl⟩ := hX
  intro H locs ls hR hz hL hl
  have kk := kk H locs ls hR hz hL hl
  simp only [ts, List.map_cons] at kk
  obtain ⟨cf, kf, fi, f, a, cell, h1, h2, h3, h4, h5, h6, h7, h8⟩ := hK.2.2.2.2.2.2.2.1.kept (fun a _ ha => hR.2.1 a (by first | decide | omega))
  exact W.gets hx hb hown (hts _ w1) h1 h2 h3 h4 h5 (fun e => by rw [e] at h6; cases h6) h7 rfl (fd_dec hP hf) kk
theorem r_getsF (hX : Cl E M as d mc ms Y X) (hP : Dec M.2.1 P) (hf : fd P pc = some (.getstatic idx, 3)) (w1 : Cond.fieldLink M.1.cls idx "jdk/internal/util/Preconditions" "SIOOBE_FORMATTER" "Ljava/util/function/BiFunction;" ∈ tb) (kk : ∀ v : Int, X cs ss (pc + 3) ((2, v) :: st) lo S G) : X cs ss pc st lo S G := by
  obtain ⟨p, e, z, m, below, meth, c, hx, hb, hr, hml, hown, hlk, hnm, hts, hK, rfl⟩ := hX
  intro H locs ls hR hz hL hl
  rcases hK.2.2.2.2.2.2.2.2.1 with q | ⟨t, q⟩
  · have kk := kk (-1) H locs ls hR hz hL hl
    simp only [ts, List.map_cons] at kk
    obtain ⟨cf, kf, fi, f, a, cell, h1, h2, h3, h4, h5, h6, h7, h8⟩ := q.kept (fun a _ ha => hR.2.1 a (by first | decide | omega))
    exact W.gets hx hb hown (hts _ w1) h1 h2 h3 h4 h5 (fun e => by rw [e] at h6; cases h6) h7 rfl (fd_dec hP hf) kk
  · have kk := kk (t : Int) H locs ls hR hz hL hl
    simp only [ts, List.map_cons] at kk
    rw [tvN] at kk
    obtain ⟨cf, kf, fi, f, a, cell, h1, h2, h3, h4, h5, h6, h7, h8⟩ := q.kept (fun a _ ha => hR.2.1 a (by first | decide | omega))
    exact W.gets hx hb hown (hts _ w1) h1 h2 h3 h4 h5 (fun e => by rw [e] at h6; cases h6) h7 rfl (fd_dec hP hf) kk
/-- a call on a text constant -/
def Ct (own : String) (idx : Nat) (M' : Mk) (n : Nat) : Prop := Co M' n ∧ Cond.methodLink own idx M'.1 ∈ tb ∧ Cond.instanceMethod M'.1 ∈ tb ∧ Cond.selects "java/lang/String" M'.1 M'.1 ∈ tb
theorem r_callT (hG : Gd) (hX : Cl E M as d mc ms Y X) (hP : Dec M.2.1 P) (hf : fd P pc = some (.invokevirtual idx, 3)) {M' : Mk} {n d' mc' ms' k : Nat} {as' : List Vl} {stk : List Vl} {Y' : Option Vl → Sg → Gh → Prop} (hC : Ct M.1.cls idx M' n) (hk : k < 20) (hd : d' + 1 ≤ d) (hmc : cs + mc' ≤ mc) (hms : ss + ms' ≤ ms) (hn : as'.length = n) (hstk : stk = as'.reverse ++ (2, sK E k) :: st) (hsc : sc st ≤ 8)
    (hc : Calls E M' ((2, sK E k) :: as') S G d' mc' ms' Y') (kk : ∀ r S' G', Y' r S' G' → X (cs + mc') (ss + ms') (pc + 3) (r.toList ++ st) lo S' G') : X cs ss pc stk lo S G := by
  obtain ⟨p, e, z, m, below, meth, c, hx, hb, hr, hml, hown, hlk, hnm, hts, hK, rfl⟩ := hX
  obtain ⟨h1, h2, h3, h7⟩ := hC
  intro H locs ls hR hz hL hl
  obtain ⟨cell, c1, c2, c3, -⟩ := ((kS_at hK hR).1 k hk).1
  have ek : tv (2, sK E k) = .ref (ksK E k) := tvN _
  have eas : ts ((2, sK E k) :: as') = Value.ref (ksK E k) :: ts as' := by
    show tv (2, sK E k) :: ts as' = _
    rw [ek]
  have hp : PreV z H "java/lang/String" (ksK E k) (Pq E ((2, sK E k) :: as') S G) (ts as') := ⟨blind _ _ _ _, ⟨cell, c1, c2, c3⟩, fun U hU hW => ⟨by rw [eas], hK.warm hW, by rw [hU]; exact hR⟩⟩
  refine run_go (va_runV (As := ts as') (rest := ts st) ⟨hx, hb, hml, hown, hts⟩ hc ⟨cb_of hG hts h1 h2 hd, hts _ h3, hts _ h7⟩ hp rfl (by rw [← hn]; exact List.length_map ..) hl.1 ?_ (lv_room (by rw [sc_ok]; exact hsc)) (fd_dec hP hf) ⟨hmc, hms⟩) hz hL (fun r S' G' H1 locs1 hY hR1 hz1 hL1 => ?_)
  · show ts stk = _
    rw [hstk, ts_app, ts_rev]
    show _ ++ tv (2, sK E k) :: ts st = _
    rw [ek]
  · have := kk r S' G' hY H1 locs1 ls hR1 hz1 hL1 hl
    rw [ts_app] at this
    exact this
theorem ksl8 (k : Nat) (h : k < 20) : ksL.getD k 0 ≤ 8 := by
  have : ∀ k : Nat, k < 20 → ksL.getD k 0 ≤ 8 := by decide
  exact this k h
theorem c256 : ∀ n : Fin 256, ((Int32.ofInt (n.1 : Int)).toUInt32 % 65536).toInt32 = Int32.ofInt (n.1 : Int) := by decide +kernel
theorem n256 : ∀ n : Fin 256, narrow .char (.int (Int32.ofInt (n.1 : Int))) = .int (Int32.ofInt (n.1 : Int)) := by decide +kernel
theorem s256 : ∀ n : Fin 9, Int32.ofInt (n.1 : Int) >>> (Int32.ofInt 0 &&& 31) = Int32.ofInt (n.1 : Int) := by decide +kernel
theorem shr0 {w v : Int} (h : Int32.ofInt w = Int32.ofInt v >>> (Int32.ofInt 0 &&& 31)) (w1 : -2147483648 ≤ w) (w2 : w ≤ 2147483647) (v1 : 0 ≤ v) (v2 : v ≤ 8) : w = v := by
  have e := s256 ⟨v.toNat, by omega⟩
  have ev : ((v.toNat : Nat) : Int) = v := by omega
  simp only [ev] at e
  rw [e] at h
  have h1 := congrArg Int32.toInt h
  rwa [i32t w1 w2, i32t (by first | decide | omega) (by first | decide | omega)] at h1
theorem r_i2c (hX : Cl E M as d mc ms Y X) (hP : Dec M.2.1 P) (hf : fd P pc = some (.i2c, 1)) (x1 : 0 ≤ x) (x2 : x ≤ 255) (kk : X cs ss (pc + 1) ((0, x) :: st) lo S G) : X cs ss pc ((0, x) :: st) lo S G := by
  have e := c256 ⟨x.toNat, by omega⟩
  have ev : ((x.toNat : Nat) : Int) = x := by omega
  simp only [ev] at e
  obtain ⟨p, e', z, m, below, meth, c, hx, hb, hr, hml, hown, hlk, hnm, hts, hK, rfl⟩ := hX
  intro H locs ls hR hz hL hl
  have kk := kk H locs ls hR hz hL hl
  simp only [ts, List.map_cons, tv0] at kk
  exact lv_i2c hx hb (fd_dec hP hf) e kk
theorem r_retC (hX : Cl E M as d mc ms Y X) (hP : Dec M.2.1 P) (hf : fd P pc = some (.ireturn, 1)) (hr : M.2.2.2 = some .char) {v : Int} (v1 : 0 ≤ v) (v2 : v ≤ 255) (h1 : cs ≤ mc) (h2 : ss ≤ ms) (k : Y (some (0, v)) S G) : X cs ss pc [(0, v)] lo S G :=
  r_ret0 hX hP hf hr (by
    have e := n256 ⟨v.toNat, by omega⟩
    have ev : ((v.toNat : Nat) : Int) = v := by omega
    simp only [ev] at e
    exact e) h1 h2 k
theorem r_retB (hX : Cl E M as d mc ms Y X) (hP : Dec M.2.1 P) (hf : fd P pc = some (.ireturn, 1)) (hr : M.2.2.2 = some .byte) {v : Int} (v1 : 0 ≤ v) (v2 : v ≤ 0) (h1 : cs ≤ mc) (h2 : ss ≤ ms) (k : Y (some (0, v)) S G) : X cs ss pc [(0, v)] lo S G :=
  r_ret0 hX hP hf hr (by obtain rfl : v = 0 := by omega
                         rfl) h1 h2 k
end RUS
