theorem new_txt {E : En} {nl : List Int} {ws : List (Int × Int)} {S1 S2 : Sg} {G1 G2 : Gh} {x : Int} (g : Gr nl ws S1 G1 S2 G2) (tk : TKP S1 G1) (c1 : nl.contains 136 = false) (c2 : inm ws 136 3 = false) (c3 : inm ws 136 5 = false) (z3 : S1 (G2 149 x 3) = 0) (z5 : S1 (G2 149 x 5) = 0) (a0 : ∀ j : Int, G2 121 (G2 149 x 5) j = 0) (fn : Fnl E fs_136 149 S2 G2 x) : (S2 (G2 149 x 3) = 120 ∧ S2 (G2 149 x 5) = 121) ∧ (∀ i : Int, 0 ≤ i → i < 30 → (G2 120 (G2 149 x 3) i = 0 ∨ G2 120 (G2 149 x 3) i = 4) → 0 ≤ G2 121 (G2 149 x 5) i ∧ G2 121 (G2 149 x 5) i ≤ 19) ∧ ∀ u : Int, S2 u = 136 → G2 149 x 3 ≠ G2 136 u 3 ∧ G2 149 x 5 ≠ G2 136 u 5 := by
  refine ⟨⟨(fn 3 (by decide)).1, (fn 5 (by decide)).1⟩, fun i _ _ _ => by rw [a0 i]; decide, fun u hu => ?_⟩
  have hu1 := gr_back g hu (by decide) c1
  have t := tk u hu1
  rw [gr_at g hu1 (by decide) c2, gr_at g hu1 (by decide) c3]
  refine ⟨fun e => ?_, fun e => ?_⟩
  · rw [← e, z3] at t
    exact absurd t.1 (by decide)
  · rw [← e, z5] at t
    exact absurd t.2 (by decide)
theorem co_X9_clear : Co mX9_clear 0 := ⟨(tbg sg4 26 rfl rfl), (tbg sg1 17 rfl rfl), by decide, by decide, by decide +kernel, by decide⟩
theorem cv_X6_61_136 : Cv RX6 61 mX9_clear 136 0 := ⟨co_X9_clear, (tbg sg4 23 rfl rfl), (tbg sg4 24 rfl rfl), 10, 16, fs_136, RX9, TX9, rfl, by decide, rfl, (tbg sg4 25 rfl rfl)⟩
theorem fp_X6_64_131 : Fp RX6 64 131 4 (0, 0, 400) := ⟨fl_X6_64_131, 7, 17, fs_131, RX6, TX6, .int, rfl, rfl, rfl, by decide +kernel, fun E S x h => ⟨rfl, rfl⟩⟩
theorem nw_X6_58_149 : Nw RX6 58 149 16 := ⟨10, fs_149, RX9, TX9, tyX9, rfl, rfl, by decide, rfl, tbs [856, 858, 860, 862, 864, 866, 868, 870, 872, 874, 876, 878, 880, 882, 884, 886] (by decide +kernel), tyX9_ok, (tbg sg3 160 rfl rfl), (tbg sg3 161 rfl rfl), (tbg sg1 17 rfl rfl), by decide⟩
theorem co_X9_init : Co mX9_init 0 := ⟨(tbg sg3 164 rfl rfl), (tbg sg1 17 rfl rfl), by decide, by decide, by decide +kernel, by decide⟩
theorem ci_X6_60 : Ci RX6 60 mX9_init 0 := ⟨co_X9_init, (tbg sg3 162 rfl rfl), rfl, (tbg sg3 163 rfl rfl), rfl⟩
theorem nf_149 : norf 149 = true := by decide +kernel
theorem fp_X6_54_131 : Fp RX6 54 131 9 (3, 136, 0) := ⟨fl_X6_54_131, 7, 17, fs_131, RX6, TX6, (.object "ShareLife$Text"), rfl, rfl, rfl, by decide +kernel, fun E S x h => reffit (fun _ => rfl) ⟨rfl, fun _ => rfl⟩ (by decide) x⟩
theorem co_X6_begin : Co mX6_begin 1 := ⟨(tbg sg3 159 rfl rfl), (tbg sg1 8 rfl rfl), by decide, by decide, by decide +kernel, by decide⟩
theorem cv_X6_34_131 : Cv RX6 34 mX6_begin 131 1 := ⟨co_X6_begin, (tbg sg3 156 rfl rfl), (tbg sg3 158 rfl rfl), 7, 17, fs_131, RX6, TX6, rfl, by decide, rfl, (tbm 6 (by decide +kernel) rfl)⟩
theorem co_X6_clause : Co mX6_clause 0 := ⟨(tbg sg4 115 rfl rfl), (tbg sg1 8 rfl rfl), by decide, by decide, by decide +kernel, by decide⟩
theorem cv_X6_51_131 : Cv RX6 51 mX6_clause 131 0 := ⟨co_X6_clause, (tbg sg4 112 rfl rfl), (tbg sg4 114 rfl rfl), 7, 17, fs_131, RX6, TX6, rfl, by decide, rfl, (tbm 16 (by decide +kernel) rfl)⟩
theorem co_X6_close : Co mX6_close 0 := ⟨(tbg sg4 46 rfl rfl), (tbg sg1 8 rfl rfl), by decide, by decide, by decide +kernel, by decide⟩
theorem cv_X6_48_131 : Cv RX6 48 mX6_close 131 0 := ⟨co_X6_close, (tbg sg4 43 rfl rfl), (tbg sg4 45 rfl rfl), 7, 17, fs_131, RX6, TX6, rfl, by decide, rfl, (tbm 11 (by decide +kernel) rfl)⟩
