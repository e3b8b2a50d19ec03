theorem nw_L_7_142 : Nw RL 7 142 20 := ⟨11, fs_142, RX11, TX11, tyX11, rfl, rfl, by decide, rfl, tbs [554, 556, 558, 560, 562, 564, 566, 568, 570, 572, 574, 576, 578, 580, 582, 584, 586, 588, 590, 592] (by decide +kernel), tyX11_ok, (tbg sg1 27 rfl rfl), (tbg sg1 28 rfl rfl), (tbg sg1 1 rfl rfl), by decide⟩
theorem nw_L_10_186 : Nw RL 10 186 138 := ⟨12, fs_186, RX12, TX12, tyX12, rfl, rfl, by decide, rfl, tbs [1855, 1857, 1859, 1861, 1863, 1865, 1867, 1869, 1871, 1873, 1875, 1877, 1879, 1881, 1883, 1885, 1887, 1889, 1891, 1893, 1895, 1897, 1899, 1901, 1903, 1905, 1907, 1909, 1911, 1913, 1915, 1917, 1919, 1921, 1923, 1925, 1927, 1929, 1931, 1933, 1935, 1937, 1939, 1941, 1943, 1945, 1947, 1949, 1951, 1953, 1955, 1957, 1959, 1961, 1963, 1965, 1967, 1969, 1971, 1973, 1975, 1977, 1979, 1981, 1983, 1985, 1987, 1989, 1991, 1993, 1995, 1997, 1999, 2001, 2003, 2005, 2007, 2009, 2011, 2013, 2015, 2017, 2019, 2021, 2023, 2025, 2027, 2029, 2031, 2033, 2035, 2037, 2039, 2041, 2043, 2045, 2047, 2049, 2051, 2053, 2055, 2057, 2059, 2061, 2063, 2065, 2067, 2069, 2071, 2073, 2075, 2077, 2079, 2081, 2083, 2085, 2087, 2089, 2091, 2093, 2095, 2097, 2099, 2101, 2103, 2105, 2107, 2109, 2111, 2113, 2115, 2117, 2119, 2121, 2123, 2125, 2127, 2129] (by decide +kernel), tyX12_ok, (tbg sg7 124 rfl rfl), (tbg sg7 125 rfl rfl), (tbg sg1 10 rfl rfl), by decide⟩
theorem co_X11_init : Co mX11_init 0 := ⟨(tbg sg1 31 rfl rfl), (tbg sg1 1 rfl rfl), by decide, by decide, by decide +kernel, by decide⟩
theorem ci_L_9 : Ci RL 9 mX11_init 0 := ⟨co_X11_init, (tbg sg1 29 rfl rfl), rfl, (tbg sg1 30 rfl rfl), rfl⟩
theorem co_X12_init : Co mX12_init 0 := ⟨(tbg sg7 128 rfl rfl), (tbg sg1 10 rfl rfl), by decide, by decide, by decide +kernel, by decide⟩
theorem ci_L_12 : Ci RL 12 mX12_init 0 := ⟨co_X12_init, (tbg sg7 126 rfl rfl), rfl, (tbg sg7 127 rfl rfl), rfl⟩
def PL_h : Cod := [(18, .iload_n 3, 1), (19, .aload_n 0, 1), (20, .arraylength, 1), (21, .bipush 8, 2), (23, .isub, 1), (24, .if_icmp .gt 1643, 3), (27, .aload_n 0, 1), (28, .iload_n 3, 1), (29, .iaload, 1), (30, .bipush 63, 2), (32, .iand, 1), (33, .tableswitch 1628 0 34 #[155, 168, 191, 234, 309, 396, 459, 534, 557, 580, 643, 686, 729, 772, 815, 858, 891, 934, 957, 980, 1023, 1086, 1119, 1162, 1175, 1188, 1221, 1264, 1297, 1350, 1383, 1426, 1517, 1592, 1605], 155)]
theorem hPL_h : Dec code PL_h := dec_of (by decide +kernel)
def PL_e : Cod := [(1661, .iinc 3 8, 3), (1664, .goto (-1646), 3)]
theorem hPL_e : Dec code PL_e := dec_of (by decide +kernel)
def PL_r : Cod := [(1667, .iconst 1, 1), (1668, .ireturn, 1)]
theorem hPL_r : Dec code PL_r := dec_of (by decide +kernel)
def PL_s : Cod := [(0, .new 7, 3), (3, .dup, 1), (4, .invokespecial 9, 3), (7, .astore_n 1, 1), (8, .new 10, 3), (11, .dup, 1), (12, .invokespecial 12, 3), (15, .astore_n 2, 1), (16, .iconst 0, 1), (17, .istore_n 3, 1)]
theorem hPL_s : Dec code PL_s := dec_of (by decide +kernel)
set_option maxRecDepth 100000 in
set_option maxHeartbeats 4000000 in
theorem law_loop {E : En} {nm : String} {as : List Vl} {X : Xp} {b L : Nat} {sv : Int → Int} (hL : L ≤ 4096) (hX : Cl E (mL nm) as 840 600000 7302250 Yl X) (hs : Scr X b L sv) : ∀ (n : Nat) (i x : Int) (cs ss : Nat) (S : Sg) (G : Gh), 0 ≤ i → i ≤ 4096 → (L : Int) - i < n → S x = 128 → S (Ad E 1) = 1 → CI E S G → MI E G → (∃ t : Tz, RelC S G x t ∧ RelM E G t) → 8 * (cs : Int) ≤ 8 * 222 + 704 * i → 8 * (ss : Int) ≤ 8 * 10332 + 6964 * i → X cs ss 18 [] [(0, (2, (b : Int))), (1, (2, x)), (2, (2, Ad E 1)), (3, (0, i))] S G := by
  have main : ∀ (i x : Int) (cs ss : Nat) (S : Sg) (G : Gh), 0 ≤ i → i ≤ 4096 → S x = 128 → S (Ad E 1) = 1 → CI E S G → MI E G → (∃ t : Tz, RelC S G x t ∧ RelM E G t) → 8 * (cs : Int) ≤ 8 * 222 + 704 * i → 8 * (ss : Int) ≤ 8 * 10332 + 6964 * i →
      (∀ (cs' ss' : Nat) (S' : Sg) (G' : Gh), i + 8 ≤ L → S' x = 128 → S' (Ad E 1) = 1 → CI E S' G' → MI E G' → (∃ t : Tz, RelC S' G' x t ∧ RelM E G' t) → 8 * (cs' : Int) ≤ 8 * 222 + 704 * (i + 8) → 8 * (ss' : Int) ≤ 8 * 10332 + 6964 * (i + 8) → X cs' ss' 18 [] [(0, (2, (b : Int))), (1, (2, x)), (2, (2, Ad E 1)), (3, (0, (i + 8)))] S' G') → X cs ss 18 [] [(0, (2, (b : Int))), (1, (2, x)), (2, (2, Ad E 1)), (3, (0, i))] S G := by
    intro i x cs ss S G i0 i2 hx hm ci mi rel hc hq kk
    have hP := hPL_h
    refine r_ex hX hP 2 (pc' := 20) (st' := [(2, (b : Int)), (0, i)]) (lo' := [(0, (2, (b : Int))), (1, (2, x)), (2, (2, Ad E 1)), (3, (0, i))]) rfl ?_
    refine scr_ln hs hP rfl ?_
    refine r_ex hX hP 2 (pc' := 24) (st' := [(0, ((L : Int) - 8)), (0, i)]) (lo' := [(0, (2, (b : Int))), (1, (2, x)), (2, (2, Ad E 1)), (3, (0, i))]) rfl ?_
    refine r_ic_gt hX hP rfl (tgt := 1667) rfl (by first | decide | omega) (by first | decide | omega) (by first | decide | omega) (by first | decide | omega) (fun c1 => ?_) (fun c1 => ?_)
    · skip
      refine r_ex hX hPL_r 1 (pc' := 1668) (st' := [(0, 1)]) (lo' := [(0, (2, (b : Int))), (1, (2, x)), (2, (2, Ad E 1)), (3, (0, i))]) rfl ?_
      exact r_retZ hX hPL_r rfl rfl (by decide) (by decide) (by first | decide | omega) (by first | decide | omega) rfl
    have kk2 : ∀ (cs' ss' : Nat) (S' : Sg) (G' : Gh), cs' ≤ cs + 704 → ss' ≤ ss + 6964 → S' x = 128 → S' (Ad E 1) = 1 → CI E S' G' → MI E G' → (∃ t : Tz, RelC S' G' x t ∧ RelM E G' t) → X cs' ss' 1661 [] [(0, (2, (b : Int))), (1, (2, x)), (2, (2, Ad E 1)), (3, (0, i))] S' G' := by
      intro cs' ss' S' G' h1 h2 h3 h4 h5 h6 h7
      refine r_ex hX hPL_e 2 (pc' := 18) (st' := []) (lo' := [(0, (2, (b : Int))), (1, (2, x)), (2, (2, Ad E 1)), (3, (0, (i + 8)))]) rfl ?_
      exact kk cs' ss' S' G' (by first | decide | omega) h3 h4 h5 h6 h7 (by first | decide | omega) (by first | decide | omega)
    refine r_ex hX hP 2 (pc' := 29) (st' := [(0, i), (2, (b : Int))]) (lo' := [(0, (2, (b : Int))), (1, (2, x)), (2, (2, Ad E 1)), (3, (0, i))]) rfl ?_
    refine scr_rd hs hP rfl (by first | decide | omega) (by first | decide | omega) ?_
    refine r_ex hX hP 1 (pc' := 32) (st' := [(0, 63), (0, (sv i))]) (lo' := [(0, (2, (b : Int))), (1, (2, x)), (2, (2, Ad E 1)), (3, (0, i))]) rfl ?_
    refine r_iand hX hP rfl (fun q qa qb qe => ?_)
    have qd := iand_bd qa qb qe (by decide) (by decide)
    rcases (by omega : q = 0 ∨ q = 1 ∨ q = 2 ∨ q = 3 ∨ q = 4 ∨ q = 5 ∨ q = 6 ∨ q = 7 ∨ q = 8 ∨ q = 9 ∨ q = 10 ∨ q = 11 ∨ q = 12 ∨ q = 13 ∨ q = 14 ∨ q = 15 ∨ q = 16 ∨ q = 17 ∨ q = 18 ∨ q = 19 ∨ q = 20 ∨ q = 21 ∨ q = 22 ∨ q = 23 ∨ q = 24 ∨ q = 25 ∨ q = 26 ∨ q = 27 ∨ q = 28 ∨ q = 29 ∨ q = 30 ∨ q = 31 ∨ q = 32 ∨ q = 33 ∨ q = 34 ∨ 34 < q) with cT | cT | cT | cT | cT | cT | cT | cT | cT | cT | cT | cT | cT | cT | cT | cT | cT | cT | cT | cT | cT | cT | cT | cT | cT | cT | cT | cT | cT | cT | cT | cT | cT | cT | cT | cT
    · refine r_tsIn hX hP rfl (tgt := 188) (off := 155) (by first | decide | omega) (by first | decide | omega) (by first | decide | omega) (by first | decide | omega) (by rw [cT]; rfl) rfl ?_
      exact law_0 hX hs i0 (by first | decide | omega) i2 hx hm ci mi rel (by first | decide | omega) (by first | decide | omega) kk2
    · refine r_tsIn hX hP rfl (tgt := 201) (off := 168) (by first | decide | omega) (by first | decide | omega) (by first | decide | omega) (by first | decide | omega) (by rw [cT]; rfl) rfl ?_
      exact law_1 hX hs i0 (by first | decide | omega) i2 hx hm ci mi rel (by first | decide | omega) (by first | decide | omega) kk2
    · refine r_tsIn hX hP rfl (tgt := 224) (off := 191) (by first | decide | omega) (by first | decide | omega) (by first | decide | omega) (by first | decide | omega) (by rw [cT]; rfl) rfl ?_
      exact law_2 hX hs i0 (by first | decide | omega) i2 hx hm ci mi rel (by first | decide | omega) (by first | decide | omega) kk2
    · refine r_tsIn hX hP rfl (tgt := 267) (off := 234) (by first | decide | omega) (by first | decide | omega) (by first | decide | omega) (by first | decide | omega) (by rw [cT]; rfl) rfl ?_
      exact law_3 hX hs i0 (by first | decide | omega) i2 hx hm ci mi rel (by first | decide | omega) (by first | decide | omega) kk2
    · refine r_tsIn hX hP rfl (tgt := 342) (off := 309) (by first | decide | omega) (by first | decide | omega) (by first | decide | omega) (by first | decide | omega) (by rw [cT]; rfl) rfl ?_
      exact law_4 hX hs i0 (by first | decide | omega) i2 hx hm ci mi rel (by first | decide | omega) (by first | decide | omega) kk2
    · refine r_tsIn hX hP rfl (tgt := 429) (off := 396) (by first | decide | omega) (by first | decide | omega) (by first | decide | omega) (by first | decide | omega) (by rw [cT]; rfl) rfl ?_
      exact law_5 hX hs i0 (by first | decide | omega) i2 hx hm ci mi rel (by first | decide | omega) (by first | decide | omega) kk2
    · refine r_tsIn hX hP rfl (tgt := 492) (off := 459) (by first | decide | omega) (by first | decide | omega) (by first | decide | omega) (by first | decide | omega) (by rw [cT]; rfl) rfl ?_
      exact law_6 hX hs i0 (by first | decide | omega) i2 hx hm ci mi rel (by first | decide | omega) (by first | decide | omega) kk2
    · refine r_tsIn hX hP rfl (tgt := 567) (off := 534) (by first | decide | omega) (by first | decide | omega) (by first | decide | omega) (by first | decide | omega) (by rw [cT]; rfl) rfl ?_
      exact law_7 hX hs i0 (by first | decide | omega) i2 hx hm ci mi rel (by first | decide | omega) (by first | decide | omega) kk2
    · refine r_tsIn hX hP rfl (tgt := 590) (off := 557) (by first | decide | omega) (by first | decide | omega) (by first | decide | omega) (by first | decide | omega) (by rw [cT]; rfl) rfl ?_
      exact law_8 hX hs i0 (by first | decide | omega) i2 hx hm ci mi rel (by first | decide | omega) (by first | decide | omega) kk2
    · refine r_tsIn hX hP rfl (tgt := 613) (off := 580) (by first | decide | omega) (by first | decide | omega) (by first | decide | omega) (by first | decide | omega) (by rw [cT]; rfl) rfl ?_
      exact law_9 hX hs i0 (by first | decide | omega) i2 hx hm ci mi rel (by first | decide | omega) (by first | decide | omega) kk2
    · refine r_tsIn hX hP rfl (tgt := 676) (off := 643) (by first | decide | omega) (by first | decide | omega) (by first | decide | omega) (by first | decide | omega) (by rw [cT]; rfl) rfl ?_
      exact law_10 hX hs i0 (by first | decide | omega) i2 hx hm ci mi rel (by first | decide | omega) (by first | decide | omega) kk2
    · refine r_tsIn hX hP rfl (tgt := 719) (off := 686) (by first | decide | omega) (by first | decide | omega) (by first | decide | omega) (by first | decide | omega) (by rw [cT]; rfl) rfl ?_
      exact law_11 hX hs i0 (by first | decide | omega) i2 hx hm ci mi rel (by first | decide | omega) (by first | decide | omega) kk2
    · refine r_tsIn hX hP rfl (tgt := 762) (off := 729) (by first | decide | omega) (by first | decide | omega) (by first | decide | omega) (by first | decide | omega) (by rw [cT]; rfl) rfl ?_
      exact law_12 hX hs i0 (by first | decide | omega) i2 hx hm ci mi rel (by first | decide | omega) (by first | decide | omega) kk2
    · refine r_tsIn hX hP rfl (tgt := 805) (off := 772) (by first | decide | omega) (by first | decide | omega) (by first | decide | omega) (by first | decide | omega) (by rw [cT]; rfl) rfl ?_
      exact law_13 hX hs i0 (by first | decide | omega) i2 hx hm ci mi rel (by first | decide | omega) (by first | decide | omega) kk2
    · refine r_tsIn hX hP rfl (tgt := 848) (off := 815) (by first | decide | omega) (by first | decide | omega) (by first | decide | omega) (by first | decide | omega) (by rw [cT]; rfl) rfl ?_
      exact law_14 hX hs i0 (by first | decide | omega) i2 hx hm ci mi rel (by first | decide | omega) (by first | decide | omega) kk2
    · refine r_tsIn hX hP rfl (tgt := 891) (off := 858) (by first | decide | omega) (by first | decide | omega) (by first | decide | omega) (by first | decide | omega) (by rw [cT]; rfl) rfl ?_
      exact law_15 hX hs i0 (by first | decide | omega) i2 hx hm ci mi rel (by first | decide | omega) (by first | decide | omega) kk2
    · refine r_tsIn hX hP rfl (tgt := 924) (off := 891) (by first | decide | omega) (by first | decide | omega) (by first | decide | omega) (by first | decide | omega) (by rw [cT]; rfl) rfl ?_
      exact law_16 hX hs i0 (by first | decide | omega) i2 hx hm ci mi rel (by first | decide | omega) (by first | decide | omega) kk2
    · refine r_tsIn hX hP rfl (tgt := 967) (off := 934) (by first | decide | omega) (by first | decide | omega) (by first | decide | omega) (by first | decide | omega) (by rw [cT]; rfl) rfl ?_
      exact law_17 hX hs i0 (by first | decide | omega) i2 hx hm ci mi rel (by first | decide | omega) (by first | decide | omega) kk2
    · refine r_tsIn hX hP rfl (tgt := 990) (off := 957) (by first | decide | omega) (by first | decide | omega) (by first | decide | omega) (by first | decide | omega) (by rw [cT]; rfl) rfl ?_
      exact law_18 hX hs i0 (by first | decide | omega) i2 hx hm ci mi rel (by first | decide | omega) (by first | decide | omega) kk2
    · refine r_tsIn hX hP rfl (tgt := 1013) (off := 980) (by first | decide | omega) (by first | decide | omega) (by first | decide | omega) (by first | decide | omega) (by rw [cT]; rfl) rfl ?_
      exact law_19 hX hs i0 (by first | decide | omega) i2 hx hm ci mi rel (by first | decide | omega) (by first | decide | omega) kk2
    · refine r_tsIn hX hP rfl (tgt := 1056) (off := 1023) (by first | decide | omega) (by first | decide | omega) (by first | decide | omega) (by first | decide | omega) (by rw [cT]; rfl) rfl ?_
      exact law_20 hX hs i0 (by first | decide | omega) i2 hx hm ci mi rel (by first | decide | omega) (by first | decide | omega) kk2
    · refine r_tsIn hX hP rfl (tgt := 1119) (off := 1086) (by first | decide | omega) (by first | decide | omega) (by first | decide | omega) (by first | decide | omega) (by rw [cT]; rfl) rfl ?_
      exact law_21 hX hs i0 (by first | decide | omega) i2 hx hm ci mi rel (by first | decide | omega) (by first | decide | omega) kk2
    · refine r_tsIn hX hP rfl (tgt := 1152) (off := 1119) (by first | decide | omega) (by first | decide | omega) (by first | decide | omega) (by first | decide | omega) (by rw [cT]; rfl) rfl ?_
      exact law_22 hX hs i0 (by first | decide | omega) i2 hx hm ci mi rel (by first | decide | omega) (by first | decide | omega) kk2
    · refine r_tsIn hX hP rfl (tgt := 1195) (off := 1162) (by first | decide | omega) (by first | decide | omega) (by first | decide | omega) (by first | decide | omega) (by rw [cT]; rfl) rfl ?_
      exact law_23 hX hs i0 (by first | decide | omega) i2 hx hm ci mi rel (by first | decide | omega) (by first | decide | omega) kk2
    · refine r_tsIn hX hP rfl (tgt := 1208) (off := 1175) (by first | decide | omega) (by first | decide | omega) (by first | decide | omega) (by first | decide | omega) (by rw [cT]; rfl) rfl ?_
      exact law_24 hX hs i0 (by first | decide | omega) i2 hx hm ci mi rel (by first | decide | omega) (by first | decide | omega) kk2
    · refine r_tsIn hX hP rfl (tgt := 1221) (off := 1188) (by first | decide | omega) (by first | decide | omega) (by first | decide | omega) (by first | decide | omega) (by rw [cT]; rfl) rfl ?_
      exact law_25 hX hs i0 (by first | decide | omega) i2 hx hm ci mi rel (by first | decide | omega) (by first | decide | omega) kk2
    · refine r_tsIn hX hP rfl (tgt := 1254) (off := 1221) (by first | decide | omega) (by first | decide | omega) (by first | decide | omega) (by first | decide | omega) (by rw [cT]; rfl) rfl ?_
      exact law_26 hX hs i0 (by first | decide | omega) i2 hx hm ci mi rel (by first | decide | omega) (by first | decide | omega) kk2
    · refine r_tsIn hX hP rfl (tgt := 1297) (off := 1264) (by first | decide | omega) (by first | decide | omega) (by first | decide | omega) (by first | decide | omega) (by rw [cT]; rfl) rfl ?_
      exact law_27 hX hs i0 (by first | decide | omega) i2 hx hm ci mi rel (by first | decide | omega) (by first | decide | omega) kk2
    · refine r_tsIn hX hP rfl (tgt := 1330) (off := 1297) (by first | decide | omega) (by first | decide | omega) (by first | decide | omega) (by first | decide | omega) (by rw [cT]; rfl) rfl ?_
      exact law_28 hX hs i0 (by first | decide | omega) i2 hx hm ci mi rel (by first | decide | omega) (by first | decide | omega) kk2
    · refine r_tsIn hX hP rfl (tgt := 1383) (off := 1350) (by first | decide | omega) (by first | decide | omega) (by first | decide | omega) (by first | decide | omega) (by rw [cT]; rfl) rfl ?_
      exact law_29 hX hs i0 (by first | decide | omega) i2 hx hm ci mi rel (by first | decide | omega) (by first | decide | omega) kk2
    · refine r_tsIn hX hP rfl (tgt := 1416) (off := 1383) (by first | decide | omega) (by first | decide | omega) (by first | decide | omega) (by first | decide | omega) (by rw [cT]; rfl) rfl ?_
      exact law_30 hX hs i0 (by first | decide | omega) i2 hx hm ci mi rel (by first | decide | omega) (by first | decide | omega) kk2
    · refine r_tsIn hX hP rfl (tgt := 1459) (off := 1426) (by first | decide | omega) (by first | decide | omega) (by first | decide | omega) (by first | decide | omega) (by rw [cT]; rfl) rfl ?_
      exact law_31 hX hs i0 (by first | decide | omega) i2 hx hm ci mi rel (by first | decide | omega) (by first | decide | omega) kk2
    · refine r_tsIn hX hP rfl (tgt := 1550) (off := 1517) (by first | decide | omega) (by first | decide | omega) (by first | decide | omega) (by first | decide | omega) (by rw [cT]; rfl) rfl ?_
      exact law_32 hX hs i0 (by first | decide | omega) i2 hx hm ci mi rel (by first | decide | omega) (by first | decide | omega) kk2
    · refine r_tsIn hX hP rfl (tgt := 1625) (off := 1592) (by first | decide | omega) (by first | decide | omega) (by first | decide | omega) (by first | decide | omega) (by rw [cT]; rfl) rfl ?_
      exact law_33 hX hs i0 (by first | decide | omega) i2 hx hm ci mi rel (by first | decide | omega) (by first | decide | omega) kk2
    · refine r_tsIn hX hP rfl (tgt := 1638) (off := 1605) (by first | decide | omega) (by first | decide | omega) (by first | decide | omega) (by first | decide | omega) (by rw [cT]; rfl) rfl ?_
      exact law_34 hX hs i0 (by first | decide | omega) i2 hx hm ci mi rel (by first | decide | omega) (by first | decide | omega) kk2
    · refine r_tsOut hX hP rfl (tgt := 1661) (by first | decide | omega) (by first | decide | omega) (by first | decide | omega) rfl ?_
      exact kk2 cs ss S G (by first | decide | omega) (by first | decide | omega) hx hm ci mi rel
  intro n
  induction n with
  | zero =>
    intro i x cs ss S G i0 i2 hn hx hm ci mi rel hc hq
    exact main i x cs ss S G i0 i2 hx hm ci mi rel hc hq (fun cs' ss' S' G' h => by exfalso; omega)
  | succ n ih =>
    intro i x cs ss S G i0 i2 hn hx hm ci mi rel hc hq
    exact main i x cs ss S G i0 i2 hx hm ci mi rel hc hq (fun cs' ss' S' G' h h3 h4 h5 h6 h9 h7 h8 => ih (i + 8) x cs' ss' S' G' (by first | decide | omega) (by first | decide | omega) (by first | decide | omega) h3 h4 h5 h6 h9 h7 h8)
theorem mi_zero {E : En} {G : Gh} (h6 : G 1 (Ad E 1) 6 = 0) (h8 : G 1 (Ad E 1) 8 = 0) (h9 : G 1 (Ad E 1) 9 = 0) (h10 : G 1 (Ad E 1) 10 = 0) (h11 : G 1 (Ad E 1) 11 = 0) (h13 : G 1 (Ad E 1) 13 = 0) : MI E G := by
  refine ⟨fun i a b => ?_, fun i a b => ?_, fun i a b => ?_, fun i a b => ?_, fun i a b => ?_, fun i a b => ?_, fun i a b => ?_, fun i c a b => ?_⟩ <;> exfalso <;> omega
/-- other places for the reference's rows -/
def swE (E : En) (f : Int → Int) : En := (E.1, E.2.1, E.2.2.1, E.2.2.2.1, E.2.2.2.2.1, f)
theorem kw_sw {E : En} {f : Int → Int} {U : State} (h : ∀ z : Int, z ≤ 0 → f z = Ad E z) : Kw (swE E f) U ↔ Kw E U := by
  have e0 : Ad (swE E f) 0 = Ad E 0 := h 0 (by decide)
  have e3 : Ad (swE E f) (-300) = Ad E (-300) := h (-300) (by decide)
  have e1 : ksK (swE E f) = ksK E := funext fun i => congrArg Int.toNat (h (-100 - (i : Int)) (by first | decide | omega))
  have e2 : ksV (swE E f) = ksV E := funext fun i => congrArg Int.toNat (h (-200 - (i : Int)) (by first | decide | omega))
  unfold Kw KS
  rw [e0, e1, e2, e3]
  exact Iff.rfl
theorem okv_sw {E : En} {f : Int → Int} {S : Sg} {t : Ty} {x : Int} (h : ∀ z : Int, z ≤ 0 → f z = Ad E z) (ht : t.1 ≤ 6 ∧ t.1 ≠ 4) (o : okv E S t x) : okv (swE E f) S t x := by
  have e0 : Ad (swE E f) 0 = Ad E 0 := h 0 (by decide)
  obtain ⟨k, l, u⟩ := t
  match k, ht, o with
  | 0, _, o => exact o
  | 1, _, o => exact o
  | 2, _, o => exact o
  | 3, _, o => exact o
  | 4, ht, _ => exact absurd rfl ht.2
  | 5, _, o => exact o.imp (fun q => q.trans e0.symm) id
  | 6, _, o => exact o.imp id (fun q => q.trans e0.symm)
  | k + 7, ht, _ => exact absurd ht.1 (by show ¬ k + 7 ≤ 6; omega)
theorem rep_sw {E : En} {f : Int → Int} {S : Sg} {G : Gh} {H : Heap} (h : ∀ z : Int, z ≤ 0 → f z = Ad E z) (n1 : ∀ x : Int, S x ≠ 1 ∧ 0 ≤ S x) (hR : rep E S G H) : rep (swE E f) S G H := by
  refine ⟨hR.1, hR.2.1, fun a ha => ?_⟩
  obtain ⟨g1, g2, g3⟩ := hR.2.2 a ha
  refine ⟨g1, g2, ?_⟩
  have c1 : (lbls.zipIdx.all fun q => q.2 == 1 || (match q.1 with | .inl (_, fs) => fs.all (fun t => decide (t.1 ≤ 6 ∧ t.1 ≠ 4)) | .inr (_, _, y) => decide (y.1 ≤ 6 ∧ y.1 ≠ 4))) = true := by decide +kernel
  have k1 := n1 a
  revert g3
  unfold cel
  cases e : lbls[(S a).toNat]? with
  | none => exact id
  | some q =>
    have hm : (q, (S a).toNat) ∈ lbls.zipIdx := by
      rw [List.mem_zipIdx_iff_getElem?]
      exact e
    have c2 := List.all_eq_true.mp c1 _ hm
    have ne : ((S a).toNat == 1) = false := by
      simp only [beq_eq_false_iff_ne, ne_eq]
      omega
    rcases q with ⟨ci, fs⟩ | ⟨t, n, y⟩
    · simp only [ne, Bool.false_or] at c2
      intro g
      refine ⟨g.1, fun j hj => okv_sw h ?_ (g.2 j hj)⟩
      have hj' : fs[j]? = some fs[j] := List.getElem?_eq_getElem hj
      rw [List.getD_eq_getElem?_getD, hj']
      exact of_decide_eq_true (List.all_eq_true.mp c2 _ (List.getElem_mem hj))
    · simp only [ne, Bool.false_or] at c2
      intro g
      exact ⟨g.1, fun j hj => okv_sw h (of_decide_eq_true c2) (g.2 j hj)⟩
theorem em_sub {E : En} {S : Sg} {G : Gh} {t t' : List Int} (u : EmL E t S G) (c : t'.all (fun q => t.contains q) = true) : EmL E t' S G := fun q hq => u q (by simpa using List.all_eq_true.mp c q hq)
theorem em_sw {E : En} {f : Int → Int} {S : Sg} {G : Gh} {t : List Int} (h : ∀ z : Int, z ≤ 0 → f z = Ad E z) (u : EmL E t S G) : EmL (swE E f) t S G := fun q hq l hl => by
  have e0 : Ad (swE E f) 0 = Ad E 0 := h 0 (by decide)
  rw [e0]
  exact u q hq l hl
/-- the places that the reference's making has given its rows -/
def adM (E : En) (G : Gh) (m : Int) : Int → Int := fun z => if z ≤ 0 then Ad E z else if z = 1 then m else match mTB.find? (fun q => q.2 == z) with
  | some q => G 186 m q.1
  | none => 0
theorem adM_neg {E : En} {G : Gh} {m : Int} : ∀ z : Int, z ≤ 0 → adM E G m z = Ad E z := fun z hz => if_pos hz
theorem adM_at {E : En} {G : Gh} {m : Int} : ∀ q ∈ mTB, adM E G m q.2 = G 186 m q.1 := by
  intro q hq
  have c1 : (mTB.all fun q => decide (1 < q.2) && decide (mTB.find? (fun r => r.2 == q.2) = some q)) = true := by decide +kernel
  have c2 := List.all_eq_true.mp c1 q hq
  simp only [Bool.and_eq_true, decide_eq_true_eq] at c2
  show (if q.2 ≤ 0 then Ad E q.2 else if q.2 = 1 then m else match mTB.find? (fun r => r.2 == q.2) with
  | some q => G 186 m q.1
  | none => 0) = _
  rw [if_neg (by first | decide | omega), if_neg (by first | decide | omega), c2.2]
theorem fin_one {E : En} {S : Sg} {G : Gh} {m : Int} (hr : Fnl (swE E (adM E G m)) fs_186 186 S G m) (d : Dn mTB 186 m S G) : Fnl (swE E (adM E G m)) fs_1 186 S G m := by
  have c1 : ((List.range 138).all fun j => decide (fs_1.getD j (0, 0, 0) = fs_186.getD j (0, 0, 0)) || decide (((j : Int), (fs_1.getD j (0, 0, 0)).2.1) ∈ mTB ∧ fs_1.getD j (0, 0, 0) = (4, (fs_1.getD j (0, 0, 0)).2.1, 0) ∧ (fs_1.getD j (0, 0, 0)).2.1 ≠ 0)) = true := by decide +kernel
  intro j hj
  have hj' : j < 138 := hj
  have c2 := List.all_eq_true.mp c1 j (List.mem_range.mpr hj')
  simp only [Bool.or_eq_true, decide_eq_true_eq] at c2
  rcases c2 with c2 | ⟨c2, c3, c4⟩
  · rw [c2]
    exact hr j (by show j < 138; exact hj')
  · rw [c3]
    refine ⟨?_, d _ c2, c4⟩
    exact (adM_at _ c2).symm
set_option maxRecDepth 100000 in
set_option maxHeartbeats 8000000 in
theorem whole_start {p : Program} {e : Env} {s : State} {m : MethodId} {below : List Frame} {meth : Method} {c : Code} (l : Launch) {b L : Nat} {xs : Nat → Int32} (hL : L ≤ 4096) (C0 : lw_At p s m meth c b L xs) : W p l e room_1 s m #[Value.ref b] below meth c s.heap [] 0 0 (lw_Z below #[Value.ref b] s) (entryFrame m ([Value.ref b] : List Value).toArray 4) := by
  obtain ⟨hx, hb, hr, hml, hown, hts, hscr, hbs, hlk, hgv⟩ := C0
  obtain ⟨E, rfl, hE1, hE2, hK⟩ := kw_start (p := p) (m := m) (meth := meth) (c := c) (L := L) (xs := xs) l hts hgv
  have eas : ts [(2, (b : Int))] = [Value.ref b] := by
    show [tv (2, (b : Int))] = _
    rw [tvM]
  have ear : (ts [(2, (b : Int))]).toArray = #[Value.ref b] := by rw [eas]
  let XX : En → Xp := fun F cs ss pc st lo S G => ∀ (H : Heap) (locs : List Loc) (ls : Array Slot), rep F S G H → s.heap.size ≤ H.size → (∀ q ∈ locs, F.2.2.2.1 ≤ q.base) → lv_has ls 4 (tl lo) →
    W p F.1 e (rm_ 840 600000 7302250) s m (ts [(2, (b : Int))]).toArray below meth c H locs cs ss (MQ below (Qq F Yl) (ts [(2, (b : Int))]).toArray s 600000 7302250 (fun q => F.2.2.2.1 ≤ q)) (F0 m pc ls (ts st))
  let sv : Int → Int := fun i => (xs i.toNat).toInt
  have hcl : ∀ F : En, Kw F s → Cl F (mL meth.name) [(2, (b : Int))] 840 600000 7302250 Yl (XX F) := fun F hF => ⟨p, e, s, m, below, meth, c, hx, hb, hr, hml, hown, hlk, rfl, fun w hw => by rw [ear]; exact hts w (List.mem_filter.mp hw).1, hF, rfl⟩
  have hsc : ∀ F : En, F.2.2.2.1 = s.heap.size → F.2.2.2.2.1 = s.heap → Scr (XX F) b L sv := by
    intro F f1 f2
    obtain ⟨scr, g1, g2, g3, g4, g5⟩ := hscr
    have hat : ∀ {S : Sg} {G : Gh} {H : Heap}, rep F S G H → H[b]? = some scr := fun {S G H} hR => by rw [hR.2.1 b (by rw [f1]; exact hbs), f2]; exact g1
    refine ⟨fun i => ?_, ?_, ?_⟩
    · have h1 := Int32.le_toInt (xs i.toNat)
      have h2 := Int32.toInt_lt (xs i.toNat)
      show -2147483648 ≤ (xs i.toNat).toInt ∧ (xs i.toNat).toInt ≤ 2147483647
      omega
    · intro P cs ss pc st lo S G i hP hf i0 i1 k H locs ls hR hz hLo hl
      have k := k H locs ls hR hz hLo hl
      simp only [ts, List.map_cons] at k ⊢
      rw [tvM, tv0]
      have hi : (Int32.ofInt i).toInt = i := i32t (by first | decide | omega) (by first | decide | omega)
      have hi2 : (Int32.ofInt i).toNatClampNeg = i.toNat := by
        show (Int32.ofInt i).toInt.toNat = _
        rw [hi]
      rw [tv0, show Int32.ofInt (sv i) = xs i.toNat from Int32.ofInt_toInt _] at k
      exact W.iald hx hb (hat hR) g2 g3 (by rw [hi2, g4, Int32.lt_iff_toInt_lt, hi, Int32.toInt_zero]; omega) (by rw [hi2]; exact g5 _ (by first | decide | omega)) rfl rfl (fd_dec hP hf) k
    · intro P cs ss pc st lo S G hP hf k H locs ls hR hz hLo hl
      have k := k H locs ls hR hz hLo hl
      simp only [ts, List.map_cons] at k ⊢
      rw [tvM]
      rw [tv0] at k
      exact W.alen (n := Int32.ofInt (L : Int)) hx hb (hat hR) g2 (by rw [g4]; rfl) rfl rfl (fd_dec hP hf) k
  have start : XX E 0 0 0 [] [(0, (2, (b : Int)))] (fun _ => 0) (fun _ _ _ => 0) := by
    have hX := hcl E hK
    have hP := hPL_s
    refine r_newA hX hP rfl (L := 142) (N := 20) nw_L_7_142 (Nat.le_of_ble_eq_true rfl) (Nat.le_of_ble_eq_true rfl) (fun x S1 G1 xz xn xl g1 xv => ?_)
    have n1 : No [128, 129, 130, 131, 132, 154, 155, 156, 157, 158, 159, 136, 138] S1 := no_gr (S := fun _ => 0) (fun q hq y hy => absurd hy.symm ((by decide : ∀ q ∈ ([128, 129, 130, 131, 132, 154, 155, 156, 157, 158, 159, 136, 138] : List Int), q ≠ (0 : Int)) q hq)) g1 rfl
    have w1 : ∀ y : Int, S1 y = 0 ∨ S1 y = 142 := fun y => (g1.2.1 y rfl).imp id (fun h => List.mem_singleton.mp h)
    refine r_ex hX hP 1 (pc' := 4) (st' := [(2, x), (2, x)]) (lo' := [(0, (2, (b : Int)))]) rfl ?_
    refine r_callI gd hX hP rfl ci_L_9 xn (d' := 7) (mc' := 129) (ms' := 3278) (as' := []) (st := [(2, x)]) (Nat.le_of_ble_eq_true rfl) (Nat.le_of_ble_eq_true rfl) (Nat.le_of_ble_eq_true rfl) rfl rfl (Nat.le_of_ble_eq_true rfl) (c_X11_initZ E S1 G1 x xl n1) ?_
    rintro _ S2 G2 ⟨g2, rfl, u2, em2, n2, zac, -, zln, zfl, zpl, ztx, zas, lac, -, lrd, lru, zne_, fin2⟩
    have x2 := gr_lab g2 xl (by decide)
    refine r_ex hX hP 1 (pc' := 8) (st' := []) (lo' := [(0, (2, (b : Int))), (1, (2, x))]) rfl ?_
    refine r_relabF hX (L := 142) (L' := 128) (ci := 11) (fs := fs_142) (fs' := fs_128) rfl rfl rfl (by decide) (by decide) (by decide +kernel) (by decide) x2 fin2 (fun S3 G3 r3 => ?_)
    have u3 := uq_rs u2 (no_sub n2 rfl) r3 rfl
    have em3 := em_rsN em2 r3 rfl
    have n3 : No [136, 138] S3 := no_rs n2 r3 rfl
    refine r_newA hX hP rfl (L := 186) (N := 138) nw_L_10_186 (Nat.le_of_ble_eq_true rfl) (Nat.le_of_ble_eq_true rfl) (fun m4 S4 G4 mz mn mlb g4 mv => ?_)
    have x4 := gr_lab g4 r3.1 (by decide)
    have u4 := uq_gr u3 g4 rfl
    have em4 := em_gr em3 g4 rfl
    have n4 := no_gr n3 g4 rfl
    refine r_ex hX hP 1 (pc' := 12) (st' := [(2, m4), (2, m4)]) (lo' := [(0, (2, (b : Int))), (1, (2, x))]) rfl ?_
    refine r_callI gd hX hP rfl ci_L_12 mn (d' := 3) (mc' := 91) (ms' := 6896) (as' := []) (st := [(2, m4)]) (Nat.le_of_ble_eq_true rfl) (Nat.le_of_ble_eq_true rfl) (Nat.le_of_ble_eq_true rfl) rfl rfl (Nat.le_of_ble_eq_true rfl) (c_X12_initZ E S4 G4 m4 mlb) ?_
    rintro _ S5 G5 ⟨g5, rfl, dn5, dv5⟩
    have x5 := gr_lab g5 x4 (by decide)
    have m5 := gr_lab g5 mlb (by decide)
    have u5 := uq_gr u4 g5 rfl
    have em5 := em_gr em4 g5 rfl
    have n5 := no_gr n4 g5 rfl
    have cnt : ∀ j : Int, inm mWS 186 j = false → dfl 186 j = 0 → G5 186 m4 j = 0 := fun j h1 h2 => by rw [gr_at g5 mlb (by decide) h1, mv j, h2]
    have pos : ∀ y : Int, S5 y ≠ 1 ∧ 0 ≤ S5 y := by
      intro y
      have p5 : S5 y = S4 y ∨ S5 y ∈ mNL := by
        by_cases q : S4 y = 0
        · rcases g5.2.1 y q with h | h
          · exact Or.inl (h.trans q.symm)
          · exact Or.inr h
        · exact Or.inl (g5.1 y q)
      have ml : ∀ z ∈ mNL, z ≠ 1 ∧ 0 ≤ z := by decide +kernel
      rcases p5 with h | h
      · rw [h]
        by_cases q : S3 y = 0
        · rcases g4.2.1 y q with h | h
          · rw [h]; decide
          · rw [List.mem_singleton.mp h]; decide
        · rw [g4.1 y q]
          by_cases e : y = x
          · rw [e, r3.1]; decide
          · rw [r3.2.1 y e] at q ⊢
            by_cases q1 : S1 y = 0
            · rcases g2.2.1 y q1 with h | h
              · exact absurd h q
              · have ml2 : ∀ z ∈ ([93, 94, 95, 96, 97, 98, 99, 105, 106, 107, 108, 109, 110, 111, 112, 113, 114, 115, 116, 117, 118, 129, 130, 131, 132, 134, 143, 144, 145, 146, 148, 153, 154, 155, 156, 157, 158, 159] : List Int), z ≠ 1 ∧ 0 ≤ z := by decide
                exact ml2 _ h
            · rw [g2.1 y q1]
              rcases w1 y with h | h
              · exact absurd h q1
              · rw [h]; decide
      · exact ml _ h
    refine r_ex hX hP 1 (pc' := 16) (st' := []) (lo' := [(0, (2, (b : Int))), (1, (2, x)), (2, (2, m4))]) rfl ?_
    have hK2 : Kw (swE E (adM E G5 m4)) s := (kw_sw adM_neg).mpr hK
    have hX2 := hcl _ hK2
    have hs2 := hsc (swE E (adM E G5 m4)) hE1 hE2
    have go : XX (swE E (adM E G5 m4)) (0 + 1 + 129 + 1 + 91) (0 + 20 + 3278 + 138 + 6896) 16 [] [(0, (2, (b : Int))), (1, (2, x)), (2, (2, m4))] S5 G5 := by
      refine r_finA hX2 (L := 186) (ci := 12) (fs := fs_186) rfl m5 (by decide) (fun hr5 => ?_)
      refine r_relabF hX2 (L := 186) (L' := 1) (ci := 12) (fs := fs_186) (fs' := fs_1) rfl rfl rfl (by decide) (by decide) (by decide +kernel) (by decide +kernel) m5 (fin_one hr5 dn5) (fun S6 G6 r6 => ?_)
      have a1 : Ad (swE E (adM E G5 m4)) 1 = m4 := rfl
      have u6 := uq_rsN u5 r6 rfl
      have em6 := em_rsN (em_sw (f := adM E G5 m4) adM_neg em5) r6 rfl
      have n6 : No [136, 138] S6 := no_rs n5 r6 rfl
      have ci6 : CI (swE E (adM E G5 m4)) S6 G6 := ci_mkU (uq_sub u6 rfl) n6 (em_sub em6 rfl)
      have c6 : ∀ j : Int, inm mWS 186 j = false → dfl 186 j = 0 → G6 1 (Ad (swE E (adM E G5 m4)) 1) j = 0 := fun j h1 h2 => by rw [a1, r6.2.2.1]; exact cnt j h1 h2
      have mi6 : MI (swE E (adM E G5 m4)) G6 := mi_zero (c6 6 rfl rfl) (c6 8 rfl rfl) (c6 9 rfl rfl) (c6 10 rfl rfl) (c6 11 rfl rfl) (c6 13 rfl rfl)
      have x6 := r6.lab m5 x5 (by decide)
      refine r_ex hX2 hP 2 (pc' := 18) (st' := []) (lo' := [(0, (2, (b : Int))), (1, (2, x)), (2, (2, Ad (swE E (adM E G5 m4)) 1)), (3, (0, 0))]) rfl ?_
      have e3ac : (G2 142 x 5) = G3 128 x 5 := (r3.2.2.1 5).symm
      have e4ac := gr_val g4 e3ac r3.1 (by decide) rfl
      have e5ac := gr_val g5 e4ac x4 (by decide) rfl
      have e6ac := rs_val r6 m5 e5ac x5 (by decide)
      have l3ac : S3 (G2 142 x 5) = 130 := r3.lab x2 lac (by decide)
      have l4ac := gr_lab g4 l3ac (by decide)
      have l5ac := gr_lab g5 l4ac (by decide)
      have e3re : (G2 142 x 16) = G3 128 x 16 := (r3.2.2.1 16).symm
      have e4re := gr_val g4 e3re r3.1 (by decide) rfl
      have e5re := gr_val g5 e4re x4 (by decide) rfl
      have e6re := rs_val r6 m5 e5re x5 (by decide)
      have l3re : S3 (G2 142 x 16) = 131 := r3.lab x2 lrd (by decide)
      have l4re := gr_lab g4 l3re (by decide)
      have l5re := gr_lab g5 l4re (by decide)
      have e3ru : (G2 142 x 17) = G3 128 x 17 := (r3.2.2.1 17).symm
      have e4ru := gr_val g4 e3ru r3.1 (by decide) rfl
      have e5ru := gr_val g5 e4ru x4 (by decide) rfl
      have e6ru := rs_val r6 m5 e5ru x5 (by decide)
      have l3ru : S3 (G2 142 x 17) = 129 := r3.lab x2 lru (by decide)
      have l4ru := gr_lab g4 l3ru (by decide)
      have l5ru := gr_lab g5 l4ru (by decide)
      have w3zac := rs_val r3 x2 zac.symm lac (by decide)
      have w4zac := gr_val g4 w3zac l3ac (by decide) rfl
      have w5zac := gr_val g5 w4zac l4ac (by decide) rfl
      have w6zac := rs_val r6 m5 w5zac l5ac (by decide)
      have w3zln := rs_val r3 x2 zln.symm lrd (by decide)
      have w4zln := gr_val g4 w3zln l3re (by decide) rfl
      have w5zln := gr_val g5 w4zln l4re (by decide) rfl
      have w6zln := rs_val r6 m5 w5zln l5re (by decide)
      have w3zfl := rs_val r3 x2 zfl.symm lrd (by decide)
      have w4zfl := gr_val g4 w3zfl l3re (by decide) rfl
      have w5zfl := gr_val g5 w4zfl l4re (by decide) rfl
      have w6zfl := rs_val r6 m5 w5zfl l5re (by decide)
      have w3zpl := rs_val r3 x2 zpl.symm lrd (by decide)
      have w4zpl := gr_val g4 w3zpl l3re (by decide) rfl
      have w5zpl := gr_val g5 w4zpl l4re (by decide) rfl
      have w6zpl := rs_val r6 m5 w5zpl l5re (by decide)
      have w3ztx := rs_val r3 x2 ztx.symm lrd (by decide)
      have w4ztx := gr_val g4 w3ztx l3re (by decide) rfl
      have w5ztx := gr_val g5 w4ztx l4re (by decide) rfl
      have w6ztx := rs_val r6 m5 w5ztx l5re (by decide)
      have w3zas := rs_val r3 x2 zas.symm lru (by decide)
      have w4zas := gr_val g4 w3zas l3ru (by decide) rfl
      have w5zas := gr_val g5 w4zas l4ru (by decide) rfl
      have w6zas := rs_val r6 m5 w5zas l5ru (by decide)
      obtain ⟨a15, a15e⟩ : ∃ q : Int, q = G2 131 (G2 142 x 16) 15 := ⟨_, rfl⟩
      obtain ⟨a16, a16e⟩ : ∃ q : Int, q = G2 131 (G2 142 x 16) 16 := ⟨_, rfl⟩
      have nea : a15 ≠ a16 := fun q => zne_ (a15e.symm.trans (q.trans a16e))
      have w3na := rs_val r3 x2 a15e lrd (by decide)
      have w4na := gr_val g4 w3na l3re (by decide) rfl
      have w5na := gr_val g5 w4na l4re (by decide) rfl
      have w6na := rs_val r6 m5 w5na l5re (by decide)
      have w3nb := rs_val r3 x2 a16e lrd (by decide)
      have w4nb := gr_val g4 w3nb l3re (by decide) rfl
      have w5nb := gr_val g5 w4nb l4re (by decide) rfl
      have w6nb := rs_val r6 m5 w5nb l5re (by decide)
      have lt2 : 0 = G2 142 x 1 := ((gr_at g2 xl (by decide) rfl).trans (xv 1)).symm
      have lt3 : 0 = G3 128 x 1 := lt2.trans (r3.2.2.1 1).symm
      have lt4 := gr_val g4 lt3 r3.1 (by decide) rfl
      have lt5 := gr_val g5 lt4 x4 (by decide) rfl
      have lt6 := rs_val r6 m5 lt5 x5 (by decide)
      refine r_peekR hX2 (tl_128 5 rfl (by decide)) x6 (fun y5 y5e y5s => ?_)
      refine r_peekR hX2 (tl_128 6 rfl (by decide)) x6 (fun y6 y6e y6s => ?_)
      refine r_peekR hX2 (tl_128 7 rfl (by decide)) x6 (fun y7 y7e y7s => ?_)
      refine r_peekR hX2 (tl_128 8 rfl (by decide)) x6 (fun y8 y8e y8s => ?_)
      refine r_peekR hX2 (tl_128 9 rfl (by decide)) x6 (fun y9 y9e y9s => ?_)
      refine r_peekR hX2 (tl_128 10 rfl (by decide)) x6 (fun y10 y10e y10s => ?_)
      refine r_peekR hX2 (tl_128 11 rfl (by decide)) x6 (fun y11 y11e y11s => ?_)
      refine r_peekR hX2 (tl_128 16 rfl (by decide)) x6 (fun y16 y16e y16s => ?_)
      refine r_peekR hX2 (tl_128 17 rfl (by decide)) x6 (fun y17 y17e y17s => ?_)
      refine r_peekR hX2 (tl_131 3 rfl (by decide)) (show S6 (G6 128 x 16) = 131 from by have h : y16 = G6 128 x 16 := y16e; rw [← h]; exact y16s) (fun y3 y3e y3s => ?_)
      have q5 : S6 (G6 128 x 5) = 130 := by have h : y5 = G6 128 x 5 := y5e; rw [← h]; exact y5s
      have q6 : S6 (G6 128 x 6) = 154 := by have h : y6 = G6 128 x 6 := y6e; rw [← h]; exact y6s
      have q7 : S6 (G6 128 x 7) = 155 := by have h : y7 = G6 128 x 7 := y7e; rw [← h]; exact y7s
      have q8 : S6 (G6 128 x 8) = 156 := by have h : y8 = G6 128 x 8 := y8e; rw [← h]; exact y8s
      have q9 : S6 (G6 128 x 9) = 157 := by have h : y9 = G6 128 x 9 := y9e; rw [← h]; exact y9s
      have q10 : S6 (G6 128 x 10) = 158 := by have h : y10 = G6 128 x 10 := y10e; rw [← h]; exact y10s
      have q11 : S6 (G6 128 x 11) = 159 := by have h : y11 = G6 128 x 11 := y11e; rw [← h]; exact y11s
      have q16 : S6 (G6 128 x 16) = 131 := by have h : y16 = G6 128 x 16 := y16e; rw [← h]; exact y16s
      have q17 : S6 (G6 128 x 17) = 129 := by have h : y17 = G6 128 x 17 := y17e; rw [← h]; exact y17s
      have h6 : Q6 S6 G6 x := ⟨x6, q5, q6, q7, q8, q9, q10, q11, q16, q17, by have h : y3 = G6 131 (G6 128 x 16) 3 := y3e; rw [← h]; exact y3s⟩
      have rc6 : RelC S6 G6 x tz0 := relc_0 h6 (by rw [← e6ac]; exact w6zac.symm) (em6 154 (by decide) _ q6).2 (em6 155 (by decide) _ q7).2 (em6 156 (by decide) _ q8).2 (em6 157 (by decide) _ q9).2 (em6 158 (by decide) _ q10).2 (em6 159 (by decide) _ q11).2 lt6.symm (by rw [← e6re]; exact w6zln.symm) (by rw [← e6ru]; exact w6zas.symm) (by rw [← e6re]; exact w6zfl.symm) (by rw [← e6re]; exact w6zpl.symm) (by rw [← e6re, ← w6na, ← w6nb]; exact nea) (by rw [← e6re]; exact w6ztx.symm)
      have rel6 : ∃ t : Tz, RelC S6 G6 x t ∧ RelM (swE E (adM E G5 m4)) G6 t := ⟨tz0, rc6, relm_0 (c6 6 rfl rfl) (c6 7 rfl rfl) (c6 8 rfl rfl) (c6 9 rfl rfl) (c6 10 rfl rfl) (c6 11 rfl rfl) (c6 12 rfl rfl) (c6 3 rfl rfl) (c6 76 rfl rfl) ((show G6 1 (Ad (swE E (adM E G5 m4)) 1) 2 = G5 186 m4 2 from r6.2.2.1 2).trans (dv5 (2, 40000) (by decide))) ((show G6 1 (Ad (swE E (adM E G5 m4)) 1) 78 = G5 186 m4 78 from r6.2.2.1 78).trans (dv5 (78, -1) (by decide))) ((show G6 1 (Ad (swE E (adM E G5 m4)) 1) 79 = G5 186 m4 79 from r6.2.2.1 79).trans (dv5 (79, -1) (by decide)))⟩
      exact law_loop hL hX2 hs2 5000 0 x _ _ S6 G6 (by decide) (by decide) (by first | decide | omega) x6 (by rw [a1]; exact r6.1) ci6 mi6 rel6 (by first | decide | omega) (by first | decide | omega)
    intro H locs ls hR hz hLo hl
    refine W_chg (fun _ h => h) (fun t ht => ?_) (go H locs ls (rep_sw adM_neg pos hR) hz hLo hl)
    obtain ⟨o, h1, h2, ⟨r, S', G', h3, h4, h5, h6, h7⟩, h8⟩ := ht
    exact ⟨o, h1, h2, ⟨r, fun _ => 0, G', h3, h4, (kw_sw adM_neg).mp h5, ⟨h6.1, h6.2.1, fun a ha => absurd rfl ha⟩, h7⟩, h8⟩
  have key : W p E.1 e (rm_ 840 600000 7302250) s m (ts [(2, (b : Int))]).toArray below meth c s.heap [] 0 0 (MQ below (Qq E Yl) (ts [(2, (b : Int))]).toArray s 600000 7302250 (fun q => E.2.2.2.1 ≤ q)) (entryFrame m (ts [(2, (b : Int))]).toArray 4) := by
    have hh := lv_entry (ts [(2, (b : Int))]) (show (lg_sl (ts [(2, (b : Int))])).length ≤ 4 from by rw [sl_ok]; exact Nat.le_of_ble_eq_true rfl)
    rw [lg_entry_eq]
    rw [show lv_args 0 (ts [(2, (b : Int))]) = tl [(0, (2, (b : Int)))] from ent_ok [(2, (b : Int))] 0] at hh
    exact start s.heap [] _ ⟨by rw [hE1]; exact Nat.le_refl _, fun q hq => by rw [hE2], fun a ha => absurd rfl ha⟩ (Nat.le_refl _) (fun _ h => by cases h) hh
  rw [ear] at key
  exact W_chg room_ok (fun t ht => end_ok hE1 ht) key
-- ===== YOUR PART ENDS =====
set_option maxHeartbeats 4000000 in
theorem lw_walk (l : Launch) (b : Addr) (xs : List Int32) : MetFree l x (headSpec (Jvm.Cond.code x code maxLocals ret :: tables_1) room_1) (lw_P b xs) (fun _ _ _ _ _ => True) lw_Q := by
  refine MetFree.of_bodyS (code := code) (maxLocals := maxLocals) (ret := ret) (by decide) ?_ ?_
  · intro args s m h hn
    obtain ⟨meth, c, h1, h2, h3, h4, h5, h6, -, -⟩ := Cond.code_spec hn (atoms_spec (ws := Jvm.Cond.code x code maxLocals ret :: tables_1) h _ List.mem_cons_self)
    exact ⟨meth, c, h1, h2, h3, h4, h5, h6⟩
  · intro p e s m args below meth c s₁ B hml0 hP _
    obtain ⟨rfl, hx, hbd, hgv⟩ := hP
    obtain ⟨scr, harrAt, hlist, hof, hsmall⟩ := hx
    obtain ⟨hcb, hkn, -, -⟩ := State.arrayAt?_spec harrAt
    have hown : s.vm.findClass R_law = some m.cls := findClass_of_methodNamed B.named
    have hts0 : ∀ c ∈ (Jvm.Cond.code x code maxLocals ret :: tables_1), c.before #[Value.ref b] s = true := atoms_spec (ws := Jvm.Cond.code x code maxLocals ret :: tables_1) B.pre
    have hts : ∀ w ∈ lw_tbl, w.before #[Value.ref b] s = true := k2_hts_sels lw_privs (fun w hw => hts0 w (List.mem_cons_of_mem _ hw)) lw_privs_ok
    have hml : c.maxLocals = 4 := B.maxLocals_eq (hts0 _ List.mem_cons_self)
    have X₀ : Stand p l e room_1 s m #[Value.ref b] below meth c s₁ [] 0 0 := Stand.of_body B
    have hh0 : s₁.heap = s.heap := by rw [B.state]; rfl
    have hsz : scr.slots.size = xs.length := by rw [← Array.length_toList, hlist, List.length_map]
    have hval : ∀ j : Nat, j < xs.length → scr.slots[j]? = some (.int (xs.getD j 0)) := fun j hj => by
      rw [← Array.getElem?_toList, hlist]
      simp [hj]
    have hbl : b < s.heap.size := (Array.getElem?_eq_some_iff.mp hcb).1
    have hX : va_X b xs.length (fun j => xs.getD j 0) s s.heap := ⟨scr, hcb, hof, hkn, hsz, hval⟩
    have K : W p l e room_1 s m #[Value.ref b] below meth c s₁.heap [] 0 0 (lw_Z below #[Value.ref b] s) (entryFrame m ([Value.ref b] : List Value).toArray 4) := by
      rw [hh0]
      exact whole_start l hbd ⟨B.exec, B.bytes, B.returns, hml, hown, hts, hX, hbl, B.notSynchronized, hgv⟩
    obtain ⟨t, a1, o, b1, b2, b3⟩ := K s₁ rfl X₀
    exact ⟨t, o, a1, b1, b2, b3⟩
theorem lw_pre_spec {args : Array Value} {s : State} (h : (Jvm.Cond.and given_1 narrow_1).before args s = true) (hr : rest_1_c.before args s = true) : ∃ (b : Addr) (xs : List Int32), lw_P b xs args s := by
  have hs := flat_of_before _ h
  have hq := flat_of_before _ hr
  have hc : (Cond.count 1).before args s = true := hs _ (by decide +kernel)
  have harr : (Cond.arrayOf (.arg 0) .int).before args s = true := hs _ (by decide +kernel)
  have hle : (Cond.le (.length (.arg 0)) (.int 4096)).before args s = true := hs _ (by decide +kernel)
  have hlen : (Cond.isInt (.length (.arg 0))).before args s = true := hq _ (by decide +kernel)
  have hall : (Cond.all (.arg 0) (.isInt (.elem (.arg 0) (.index 0)))).before args s = true := hq _ (by decide +kernel)
  obtain ⟨b, xs, hb, hx⟩ := State.ints_of_pre rfl harr hlen hall
  have hsm : xs.length < 2 ^ 31 := hx.choose_spec.2.2.2
  have hev : (Term.length (.arg 0)).eval args s none [] s = some (.int xs.length.toInt32) := hx.length_eval hb
  have hv := Cond.le_ints hev (show (Term.int 4096).eval args s none [] s = some (.int 4096) from rfl)
  have hd : xs.length.toInt32 ≤ 4096 := by
    simpa [Cond.before, Cond.holds, hv] using hle
  have hN : xs.length ≤ 4096 := (Int32.ofNat_le_ofNat hsm (by decide)).mp (show Int32.ofNat xs.length ≤ Int32.ofNat 4096 from hd)
  exact ⟨b, xs, Cond.one_arg hc (show args[0]? = some (.ref b) from hb), hx, hN, h⟩
theorem lw_comes (l : Launch) : Comes l x (Jvm.Cond.code x code maxLocals ret :: tables_1) room_1 (fun tb e args s => Calls_1 tb e args s ∧ rest_1 tb e args s ∧ Pre_1 tb e args s)
    (fun _ _ args s o t => lw_Q args s o t) := by
  intro p e ha hc hk s m args below hf hfit hheap happ hpre
  obtain ⟨b, xs, hP⟩ := lw_pre_spec hpre.2.2 hpre.2.1
  obtain ⟨k, o, h1, h2, h3, hQ⟩ := lw_walk l b xs p e ha hc hk s m args below hf ((Spec.applies_iff_loose hf).mp happ).1 hP trivial
  exact ⟨k, o, h1, h2, h3, hQ⟩
theorem lw_frame {s t : State} {o : Outcome} {args : Array Value} (h : Framed s o t [] 600000 7302250) :
    Framed s o t (fieldLocs frame_1_writes args s ++ arrayLocs frame_1_arrays args s ++ staticLocs frame_1_statics s) 600000 7302250 := h
theorem lw_limb (L : Cond) (hL : ∀ (args : Array Value) (s t : State), L.after args s (.returned (some (.int 1))) t = true) :
    ArmFor flags0 classFile x code maxLocals ret World_1 tables_1 room_1 Calls_1 rest_1 Pre_1
      (fun tb e a s o t => postC L tb e a s o t ∧ Framed s o t (fieldLocs frame_1_writes a s ++ arrayLocs frame_1_arrays a s ++ staticLocs frame_1_statics s) 600000 7302250) := by
  intro l _ _ _ p e ha hc hk s m args below hf hfit hheap happ hpre
  obtain ⟨k, o, h1, h2, h3, rfl, hF⟩ := lw_comes l p e ha hc hk s m args below hf hfit hheap happ hpre
  exact ⟨k, _, h1, h2, h3, hL args s _, lw_frame hF⟩
theorem i_vc : Claimed_1_1 ∧ Claimed_1_2 := ⟨lw_limb limb_1_1 (fun args s t => by simp [limb_1_1, Cond.after, Cond.holds, Cond.value]), lw_limb limb_1_2 (fun args s t => Cond.after_iff.mpr (by
  first | (rw [show limb_1_2 = Cond.eq .result (.int 1) from rfl, Cond.eq_ints (x := 1) (y := 1) rfl rfl]; simp; done) | (simp [limb_1_2, Cond.value, Term.eval]; done)))⟩
