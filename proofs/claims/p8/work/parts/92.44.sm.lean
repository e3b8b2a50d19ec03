/-- the sum of f up the hands from i, n steps at most -/
def SmN (h f : Int → Int) : Nat → Int → Int → Prop
  | 0, i, z => i < 0 ∧ z = 0
  | n + 1, i, z => (i < 0 ∧ z = 0) ∨ (0 ≤ i ∧ ∃ t : Int, SmN h f n (h i) t ∧ z = f i + t)
def Sm (h f : Int → Int) (i z : Int) : Prop := ∃ n : Nat, SmN h f n i z
theorem sm_z {h f : Int → Int} {i : Int} (k : i < 0) : Sm h f i 0 := ⟨0, k, rfl⟩
theorem sm_s {h f : Int → Int} {i t : Int} (k : 0 ≤ i) (q : Sm h f (h i) t) : Sm h f i (f i + t) := by
  obtain ⟨n, q⟩ := q
  exact ⟨n + 1, Or.inr ⟨k, t, q, rfl⟩⟩
theorem sm_c {h f : Int → Int} {i z : Int} (q : Sm h f i z) : (i < 0 ∧ z = 0) ∨ (0 ≤ i ∧ ∃ t : Int, Sm h f (h i) t ∧ z = f i + t) := by
  obtain ⟨n, q⟩ := q
  cases n with
  | zero => exact Or.inl q
  | succ n => exact q.imp id (fun ⟨a, t, b, c⟩ => ⟨a, t, ⟨n, b⟩, c⟩)
def SmE (E : En) (G : Gh) (L a z : Int) : Prop := Sm (fun i => G 2 (Ad E 2) i) (fun i => G L (Ad E L) i) a z
/-- from the hand of a, or from a itself where it has none -/
def SmS (E : En) (G : Gh) (L a z : Int) : Prop := (G 2 (Ad E 2) a < 0 → SmE E G L a z) ∧ (0 ≤ G 2 (Ad E 2) a → SmE E G L (G 2 (Ad E 2) a) z)
def SmA (E : En) (G : Gh) (L a acc cur : Int) : Prop := ∀ t : Int, SmE E G L cur t → SmS E G L a (acc + t)
theorem sm_enter {E : En} {G : Gh} {L a acc cur : Int} (h0 : 0 ≤ a) (hc : cur = G 2 (Ad E 2) a) (h : (cur < 0 ∧ acc = G L (Ad E L) a) ∨ (0 ≤ cur ∧ acc = 0)) : SmA E G L a acc cur := by
  intro t ht
  subst hc
  rcases h with ⟨h1, h2⟩ | ⟨h1, h2⟩
  · subst h2; exact ⟨fun _ => sm_s (h := fun i => G 2 (Ad E 2) i) (f := fun i => G L (Ad E L) i) h0 ht, fun q => absurd q (by first | decide | omega)⟩
  · subst h2; rw [Int.zero_add]; exact ⟨fun q => absurd q (by first | decide | omega), fun _ => ht⟩
theorem sm_step {E : En} {G : Gh} {L a acc cur acc' cur' : Int} (h : SmA E G L a acc cur) (h0 : 0 ≤ cur) (hc : cur' = G 2 (Ad E 2) cur) (ha : acc' = acc + G L (Ad E L) cur) : SmA E G L a acc' cur' := by
  intro t ht
  subst hc; subst ha
  rw [Int.add_assoc]
  exact h _ (sm_s (h := fun i => G 2 (Ad E 2) i) (f := fun i => G L (Ad E L) i) h0 ht)
theorem sm_end {E : En} {G : Gh} {L a acc cur : Int} (h : SmA E G L a acc cur) (h0 : cur < 0) : SmS E G L a acc := by
  have := h 0 (sm_z h0)
  rwa [Int.add_zero] at this
/-- more days than leads up the hands from here -/
def Mor (E : En) (G : Gh) (D L c : Int) : Prop := ∃ t u : Int, SmE E G D c t ∧ SmE E G L c u ∧ u < t
theorem mor_pos {E : En} {G : Gh} {D L c : Int} (h : Mor E G D L c) : 0 ≤ c := by
  obtain ⟨t, u, ht, hu, hl⟩ := h
  rcases sm_c ht with ⟨h1, h2⟩ | ⟨h1, _⟩
  · rcases sm_c hu with ⟨h3, h4⟩ | ⟨h3, _⟩
    · omega
    · exact h3
  · exact h1
theorem mor_step {E : En} {G : Gh} {D L c c' x y : Int} (h : Mor E G D L c) (hx : x = G D (Ad E D) c) (hy : y = G L (Ad E L) c) (hl : x ≤ y) (hc : c' = G 2 (Ad E 2) c) : Mor E G D L c' := by
  have h0 := mor_pos h
  obtain ⟨t, u, ht, hu, hlt⟩ := h
  subst hc
  rcases sm_c ht with ⟨h1, _⟩ | ⟨_, t', k1, e1⟩
  · omega
  · rcases sm_c hu with ⟨h1, _⟩ | ⟨_, u', k2, e2⟩
    · omega
    · refine ⟨t', u', k1, k2, ?_⟩
      simp only [← hx] at e1
      simp only [← hy] at e2
      omega
theorem mor_enter {E : En} {G : Gh} {D L a c t u : Int} (h : SmS E G D a t) (k : SmS E G L a u) (hl : u < t) (hc : (G 2 (Ad E 2) a < 0 ∧ c = a) ∨ (0 ≤ G 2 (Ad E 2) a ∧ c = G 2 (Ad E 2) a)) : Mor E G D L c := by
  rcases hc with ⟨h1, h2⟩ | ⟨h1, h2⟩
  · subst h2; exact ⟨t, u, h.1 h1, k.1 h1, hl⟩
  · subst h2; exact ⟨t, u, h.2 h1, k.2 h1, hl⟩
/-- not in time -/
def Late (E : En) (G : Gh) (s : Int) : Prop := ∃ t : Int, SmS E G 4 (G 39 (Ad E 39) s) t ∧ G 23 (Ad E 23) (G 38 (Ad E 38) s) < G 41 (Ad E 41) s + t
theorem late_in {E : En} {G : Gh} {s sa t sd se ld : Int} (q : SmS E G 4 sa t) (h1 : sa = G 39 (Ad E 39) s) (h2 : sd = G 41 (Ad E 41) s) (h3 : se = G 38 (Ad E 38) s) (h4 : ld = G 23 (Ad E 23) se) (l : ld < sd + t) : Late E G s := by
  subst h1; subst h2; subst h3; subst h4
  exact ⟨t, q, l⟩
theorem bear_in {E : En} {G : Gh} {s sa u sd se ld y c : Int} (h : Late E G s) (k : SmS E G 3 sa u) (h1 : sa = G 39 (Ad E 39) s) (h2 : sd = G 41 (Ad E 41) s) (h3 : se = G 38 (Ad E 38) s) (h4 : ld = G 23 (Ad E 23) se) (l : sd ≤ ld - u) (hy : y = G 2 (Ad E 2) sa) (hc : (y < 0 ∧ c = sa) ∨ (0 ≤ y ∧ c = y)) : Mor E G 4 3 c := by
  obtain ⟨t, q, lt⟩ := h
  subst h1; subst h2; subst h3; subst h4; subst hy
  exact mor_enter q k (by first | decide | omega) hc
