theorem ush_aux {x z : Int} (y : Int) (n : Nat) (hn : ((UInt32.mod ((Int32.ofInt y).toUInt32 &&& Int32.toUInt32 31) 32).toBitVec).toNat = n) (h : Int32.ofInt z = ((Int32.ofInt x).toUInt32 >>> ((Int32.ofInt y).toUInt32 &&& Int32.toUInt32 31)).toInt32) : (z % 4294967296).toNat = (x % 4294967296).toNat / 2 ^ n := by
  have hb : (Int32.ofInt z).toBitVec = (Int32.ofInt x).toBitVec >>> (UInt32.mod ((Int32.ofInt y).toUInt32 &&& Int32.toUInt32 31) 32).toBitVec := by rw [h]; rfl
  have hN : (Int32.ofInt z).toBitVec.toNat = (Int32.ofInt x).toBitVec.toNat / 2 ^ n := by
    rw [hb, BitVec.ushiftRight_eq', BitVec.toNat_ushiftRight, hn, Nat.shiftRight_eq_div_pow]
  have ex : (Int32.ofInt x).toBitVec.toNat = (x % 4294967296).toNat := by
    show (BitVec.ofInt 32 x).toNat = _
    rw [BitVec.toNat_ofInt]; omega
  have ez : (Int32.ofInt z).toBitVec.toNat = (z % 4294967296).toNat := by
    show (BitVec.ofInt 32 z).toNat = _
    rw [BitVec.toNat_ofInt]; omega
  rw [← ez, ← ex, hN]
theorem ush_0 {x z : Int} (z1 : -2147483648 ≤ z) (z2 : z ≤ 2147483647) (h : Int32.ofInt z = ((Int32.ofInt x).toUInt32 >>> ((Int32.ofInt 0).toUInt32 &&& Int32.toUInt32 31)).toInt32) : z % 256 = x / 1 % 256 := by
  have e := ush_aux 0 0 (by decide) h
  rw [show (2 : Nat) ^ 0 = 1 from rfl] at e
  omega
theorem ush_8 {x z : Int} (z1 : -2147483648 ≤ z) (z2 : z ≤ 2147483647) (h : Int32.ofInt z = ((Int32.ofInt x).toUInt32 >>> ((Int32.ofInt 8).toUInt32 &&& Int32.toUInt32 31)).toInt32) : z % 256 = x / 256 % 256 := by
  have e := ush_aux 8 8 (by decide) h
  rw [show (2 : Nat) ^ 8 = 256 from rfl] at e
  omega
theorem ush_16 {x z : Int} (z1 : -2147483648 ≤ z) (z2 : z ≤ 2147483647) (h : Int32.ofInt z = ((Int32.ofInt x).toUInt32 >>> ((Int32.ofInt 16).toUInt32 &&& Int32.toUInt32 31)).toInt32) : z % 256 = x / 65536 % 256 := by
  have e := ush_aux 16 16 (by decide) h
  rw [show (2 : Nat) ^ 16 = 65536 from rfl] at e
  omega
theorem ush_24 {x z : Int} (z1 : -2147483648 ≤ z) (z2 : z ≤ 2147483647) (h : Int32.ofInt z = ((Int32.ofInt x).toUInt32 >>> ((Int32.ofInt 24).toUInt32 &&& Int32.toUInt32 31)).toInt32) : z % 256 = x / 16777216 % 256 := by
  have e := ush_aux 24 24 (by decide) h
  rw [show (2 : Nat) ^ 24 = 16777216 from rfl] at e
  omega
theorem up_if (g : Gh) (L a j v i : Int) : up g L a j v L a i = if i = j then v else g L a i := by
  by_cases c : i = j
  · rw [if_pos c, c]
    exact up_self _ _ _ _ _
  · rw [if_neg c]
    exact up_ne (fun w => c w.2.2)
/-- four bytes laid down from n on -/
def layB (T : Int → Int) (n v : Int) : Int → Int := fun i => if i = n + 3 then byt v 3 else if i = n + 2 then byt v 2 else if i = n + 1 then byt v 1 else if i = n then byt v 0 else T i
theorem layB_cong {T U : Int → Int} (h : ∀ i : Int, T i = U i) (n v i : Int) : layB T n v i = layB U n v i := by
  unfold layB
  rw [h i]
theorem byt_0 (v : Int) : byt v 0 = v / 16777216 % 256 := rfl
theorem byt_1 (v : Int) : byt v 1 = v / 65536 % 256 := rfl
theorem byt_2 (v : Int) : byt v 2 = v / 256 % 256 := rfl
theorem byt_3 (v : Int) : byt v 3 = v % 256 := rfl
set_option maxRecDepth 100000 in
set_option maxHeartbeats 4000000 in
theorem c_X6_putT (E : En) (S : Sg) (G : Gh) (this : Int) (four : Int) (hS : S this = 131) (l0 : Int) (l0_e : l0 = G 131 this 0) (tpa : Int) (tpa_e : tpa = G 131 this 3) (tpa_s : S tpa = 105) (four_a : (-2147483648) ≤ four) (four_b : four ≤ 2147483647) (pre0 : l0 + 4 ≤ 400) : Calls E mX6_put [(2, this), (0, four)] S G 0 0 0 (fun r S' G' => S = S' ∧ (∃ G1, hw [(105, -1), (131, 0)] G G1 = G') ∧ r = none ∧ ∃ n2 : Int, n2 = G' 131 this 0 ∧ n2 = l0 + 4 ∧ (∀ i : Int, G' 105 tpa i = layB (fun j => G 105 tpa j) l0 four i)) := by
  refine calls_by [(0, (2, this)), (1, (0, four))] rfl rfl (Nat.le_of_ble_eq_true rfl) (fun X hX => ?_)
  have hP := hPX6_put
  refine r_peekI hX (tl_131 0 rfl (by decide)) hS (fun l0_o l0_oe l0_oa l0_ob => ?_)
  obtain rfl : l0 = l0_o := l0_e.trans l0_oe.symm
  refine r_ex hX hP 3 (pc' := 4) (st' := [(0, 24)]) (lo' := [(0, (2, this)), (1, (0, four)), (2, (0, 24))]) rfl ?_
  refine r_if_lt hX hP rfl (tgt := 49) rfl (by first | decide | omega) (by first | decide | omega) (fun c1 => ?_) (fun c1 => ?_)
  · skip
    exfalso; omega
  · skip
    refine r_ex hX hP 1 (pc' := 8) (st' := [(2, this)]) (lo' := [(0, (2, this)), (1, (0, four)), (2, (0, 24))]) rfl ?_
    refine r_getKI hX hP rfl fl_X6_31_131 hS (x := l0) l0_e ?_
    refine r_ex hX hP 1 (pc' := 14) (st' := [(0, 400), (0, l0)]) (lo' := [(0, (2, this)), (1, (0, four)), (2, (0, 24))]) rfl ?_
    refine r_ic_ge hX hP rfl (tgt := 43) rfl (by first | decide | omega) (by first | decide | omega) (by first | decide | omega) (by first | decide | omega) (fun c2 => ?_) (fun c2 => ?_)
    · skip
      exfalso; omega
    · skip
      refine r_ex hX hP 1 (pc' := 18) (st' := [(2, this)]) (lo' := [(0, (2, this)), (1, (0, four)), (2, (0, 24))]) rfl ?_
      refine r_getKR hX hP rfl fl_X6_18_131 hS (x := tpa) tpa_e ?_
      refine r_ex hX hP 1 (pc' := 22) (st' := [(2, this), (2, tpa)]) (lo' := [(0, (2, this)), (1, (0, four)), (2, (0, 24))]) rfl ?_
      refine r_getKI hX hP rfl fl_X6_31_131 hS (x := l0) l0_e ?_
      refine r_ex hX hP 2 (pc' := 27) (st' := [(0, 24), (0, four), (0, l0), (2, tpa)]) (lo' := [(0, (2, this)), (1, (0, four)), (2, (0, 24))]) rfl ?_
      refine r_iushr hX hP rfl (fun b3 b3a b3b b3e => ?_)
      have b3x := ush_24 b3a b3b b3e
      refine r_ex hX hP 1 (pc' := 31) (st' := [(0, 255), (0, b3), (0, l0), (2, tpa)]) (lo' := [(0, (2, this)), (1, (0, four)), (2, (0, 24))]) rfl ?_
      refine r_iand hX hP rfl (fun b4 b4a b4b b4e => ?_)
      have b4d := iand_bd b4a b4b b4e (by first | decide | omega) (by first | decide | omega)
      have b4x := iand255 b4a b4b b4e
      refine r_iastK hX hP rfl al_105 tpa_s (by first | decide | omega) (by first | decide | omega) (by first | decide | omega) (by first | decide | omega) (fun h5 => ?_)
      refine r_ex hX hP 2 (pc' := 35) (st' := [(2, this), (2, this)]) (lo' := [(0, (2, this)), (1, (0, four)), (2, (0, 24))]) rfl ?_
      refine r_getKI hX hP rfl fl_X6_31_131 hS (x := l0) l0_e ?_
      refine r_ex hX hP 2 (pc' := 40) (st' := [(0, (l0 + 1)), (2, this)]) (lo' := [(0, (2, this)), (1, (0, four)), (2, (0, 24))]) rfl ?_
      refine r_putIK hX hP rfl fp_X6_31_131 hS (by first | decide | omega) (by first | decide | omega) (fun h6 => ?_)
      refine r_ex hX hP 3 (pc' := 4) (st' := [(0, (24 + (-8)))]) (lo' := [(0, (2, this)), (1, (0, four)), (2, (0, (24 + (-8))))]) rfl ?_
      refine r_if_lt hX hP rfl (tgt := 49) rfl (by first | decide | omega) (by first | decide | omega) (fun c7 => ?_) (fun c7 => ?_)
      · skip
        exfalso; omega
      · skip
        refine r_ex hX hP 1 (pc' := 8) (st' := [(2, this)]) (lo' := [(0, (2, this)), (1, (0, four)), (2, (0, (24 + (-8))))]) rfl ?_
        refine r_getKI hX hP rfl fl_X6_31_131 hS (x := (l0 + 1)) h6 ?_
        refine r_ex hX hP 1 (pc' := 14) (st' := [(0, 400), (0, (l0 + 1))]) (lo' := [(0, (2, this)), (1, (0, four)), (2, (0, (24 + (-8))))]) rfl ?_
        refine r_ic_ge hX hP rfl (tgt := 43) rfl (by first | decide | omega) (by first | decide | omega) (by first | decide | omega) (by first | decide | omega) (fun c8 => ?_) (fun c8 => ?_)
        · skip
          exfalso; omega
        · skip
          refine r_ex hX hP 1 (pc' := 18) (st' := [(2, this)]) (lo' := [(0, (2, this)), (1, (0, four)), (2, (0, (24 + (-8))))]) rfl ?_
          refine r_getKR hX hP rfl fl_X6_18_131 hS (x := tpa) tpa_e ?_
          refine r_ex hX hP 1 (pc' := 22) (st' := [(2, this), (2, tpa)]) (lo' := [(0, (2, this)), (1, (0, four)), (2, (0, (24 + (-8))))]) rfl ?_
          refine r_getKI hX hP rfl fl_X6_31_131 hS (x := (l0 + 1)) h6 ?_
          refine r_ex hX hP 2 (pc' := 27) (st' := [(0, (24 + (-8))), (0, four), (0, (l0 + 1)), (2, tpa)]) (lo' := [(0, (2, this)), (1, (0, four)), (2, (0, (24 + (-8))))]) rfl ?_
          refine r_iushr hX hP rfl (fun b9 b9a b9b b9e => ?_)
          have b9x := ush_16 b9a b9b b9e
          refine r_ex hX hP 1 (pc' := 31) (st' := [(0, 255), (0, b9), (0, (l0 + 1)), (2, tpa)]) (lo' := [(0, (2, this)), (1, (0, four)), (2, (0, (24 + (-8))))]) rfl ?_
          refine r_iand hX hP rfl (fun b10 b10a b10b b10e => ?_)
          have b10d := iand_bd b10a b10b b10e (by first | decide | omega) (by first | decide | omega)
          have b10x := iand255 b10a b10b b10e
          refine r_iastK hX hP rfl al_105 tpa_s (by first | decide | omega) (by first | decide | omega) (by first | decide | omega) (by first | decide | omega) (fun h11 => ?_)
          refine r_ex hX hP 2 (pc' := 35) (st' := [(2, this), (2, this)]) (lo' := [(0, (2, this)), (1, (0, four)), (2, (0, (24 + (-8))))]) rfl ?_
          refine r_getKI hX hP rfl fl_X6_31_131 hS (x := (l0 + 1)) h6 ?_
          refine r_ex hX hP 2 (pc' := 40) (st' := [(0, ((l0 + 1) + 1)), (2, this)]) (lo' := [(0, (2, this)), (1, (0, four)), (2, (0, (24 + (-8))))]) rfl ?_
          refine r_putIK hX hP rfl fp_X6_31_131 hS (by first | decide | omega) (by first | decide | omega) (fun h12 => ?_)
          refine r_ex hX hP 3 (pc' := 4) (st' := [(0, ((24 + (-8)) + (-8)))]) (lo' := [(0, (2, this)), (1, (0, four)), (2, (0, ((24 + (-8)) + (-8))))]) rfl ?_
          refine r_if_lt hX hP rfl (tgt := 49) rfl (by first | decide | omega) (by first | decide | omega) (fun c13 => ?_) (fun c13 => ?_)
          · skip
            exfalso; omega
          · skip
            refine r_ex hX hP 1 (pc' := 8) (st' := [(2, this)]) (lo' := [(0, (2, this)), (1, (0, four)), (2, (0, ((24 + (-8)) + (-8))))]) rfl ?_
            refine r_getKI hX hP rfl fl_X6_31_131 hS (x := ((l0 + 1) + 1)) h12 ?_
            refine r_ex hX hP 1 (pc' := 14) (st' := [(0, 400), (0, ((l0 + 1) + 1))]) (lo' := [(0, (2, this)), (1, (0, four)), (2, (0, ((24 + (-8)) + (-8))))]) rfl ?_
            refine r_ic_ge hX hP rfl (tgt := 43) rfl (by first | decide | omega) (by first | decide | omega) (by first | decide | omega) (by first | decide | omega) (fun c14 => ?_) (fun c14 => ?_)
            · skip
              exfalso; omega
            · skip
              refine r_ex hX hP 1 (pc' := 18) (st' := [(2, this)]) (lo' := [(0, (2, this)), (1, (0, four)), (2, (0, ((24 + (-8)) + (-8))))]) rfl ?_
              refine r_getKR hX hP rfl fl_X6_18_131 hS (x := tpa) tpa_e ?_
              refine r_ex hX hP 1 (pc' := 22) (st' := [(2, this), (2, tpa)]) (lo' := [(0, (2, this)), (1, (0, four)), (2, (0, ((24 + (-8)) + (-8))))]) rfl ?_
              refine r_getKI hX hP rfl fl_X6_31_131 hS (x := ((l0 + 1) + 1)) h12 ?_
              refine r_ex hX hP 2 (pc' := 27) (st' := [(0, ((24 + (-8)) + (-8))), (0, four), (0, ((l0 + 1) + 1)), (2, tpa)]) (lo' := [(0, (2, this)), (1, (0, four)), (2, (0, ((24 + (-8)) + (-8))))]) rfl ?_
              refine r_iushr hX hP rfl (fun b15 b15a b15b b15e => ?_)
              have b15x := ush_8 b15a b15b b15e
              refine r_ex hX hP 1 (pc' := 31) (st' := [(0, 255), (0, b15), (0, ((l0 + 1) + 1)), (2, tpa)]) (lo' := [(0, (2, this)), (1, (0, four)), (2, (0, ((24 + (-8)) + (-8))))]) rfl ?_
              refine r_iand hX hP rfl (fun b16 b16a b16b b16e => ?_)
              have b16d := iand_bd b16a b16b b16e (by first | decide | omega) (by first | decide | omega)
              have b16x := iand255 b16a b16b b16e
              refine r_iastK hX hP rfl al_105 tpa_s (by first | decide | omega) (by first | decide | omega) (by first | decide | omega) (by first | decide | omega) (fun h17 => ?_)
              refine r_ex hX hP 2 (pc' := 35) (st' := [(2, this), (2, this)]) (lo' := [(0, (2, this)), (1, (0, four)), (2, (0, ((24 + (-8)) + (-8))))]) rfl ?_
              refine r_getKI hX hP rfl fl_X6_31_131 hS (x := ((l0 + 1) + 1)) h12 ?_
              refine r_ex hX hP 2 (pc' := 40) (st' := [(0, (((l0 + 1) + 1) + 1)), (2, this)]) (lo' := [(0, (2, this)), (1, (0, four)), (2, (0, ((24 + (-8)) + (-8))))]) rfl ?_
              refine r_putIK hX hP rfl fp_X6_31_131 hS (by first | decide | omega) (by first | decide | omega) (fun h18 => ?_)
              refine r_ex hX hP 3 (pc' := 4) (st' := [(0, (((24 + (-8)) + (-8)) + (-8)))]) (lo' := [(0, (2, this)), (1, (0, four)), (2, (0, (((24 + (-8)) + (-8)) + (-8))))]) rfl ?_
              refine r_if_lt hX hP rfl (tgt := 49) rfl (by first | decide | omega) (by first | decide | omega) (fun c19 => ?_) (fun c19 => ?_)
              · skip
                exfalso; omega
              · skip
                refine r_ex hX hP 1 (pc' := 8) (st' := [(2, this)]) (lo' := [(0, (2, this)), (1, (0, four)), (2, (0, (((24 + (-8)) + (-8)) + (-8))))]) rfl ?_
                refine r_getKI hX hP rfl fl_X6_31_131 hS (x := (((l0 + 1) + 1) + 1)) h18 ?_
                refine r_ex hX hP 1 (pc' := 14) (st' := [(0, 400), (0, (((l0 + 1) + 1) + 1))]) (lo' := [(0, (2, this)), (1, (0, four)), (2, (0, (((24 + (-8)) + (-8)) + (-8))))]) rfl ?_
                refine r_ic_ge hX hP rfl (tgt := 43) rfl (by first | decide | omega) (by first | decide | omega) (by first | decide | omega) (by first | decide | omega) (fun c20 => ?_) (fun c20 => ?_)
                · skip
                  exfalso; omega
                · skip
                  refine r_ex hX hP 1 (pc' := 18) (st' := [(2, this)]) (lo' := [(0, (2, this)), (1, (0, four)), (2, (0, (((24 + (-8)) + (-8)) + (-8))))]) rfl ?_
                  refine r_getKR hX hP rfl fl_X6_18_131 hS (x := tpa) tpa_e ?_
                  refine r_ex hX hP 1 (pc' := 22) (st' := [(2, this), (2, tpa)]) (lo' := [(0, (2, this)), (1, (0, four)), (2, (0, (((24 + (-8)) + (-8)) + (-8))))]) rfl ?_
                  refine r_getKI hX hP rfl fl_X6_31_131 hS (x := (((l0 + 1) + 1) + 1)) h18 ?_
                  refine r_ex hX hP 2 (pc' := 27) (st' := [(0, (((24 + (-8)) + (-8)) + (-8))), (0, four), (0, (((l0 + 1) + 1) + 1)), (2, tpa)]) (lo' := [(0, (2, this)), (1, (0, four)), (2, (0, (((24 + (-8)) + (-8)) + (-8))))]) rfl ?_
                  refine r_iushr hX hP rfl (fun b21 b21a b21b b21e => ?_)
                  have b21x := ush_0 b21a b21b b21e
                  refine r_ex hX hP 1 (pc' := 31) (st' := [(0, 255), (0, b21), (0, (((l0 + 1) + 1) + 1)), (2, tpa)]) (lo' := [(0, (2, this)), (1, (0, four)), (2, (0, (((24 + (-8)) + (-8)) + (-8))))]) rfl ?_
                  refine r_iand hX hP rfl (fun b22 b22a b22b b22e => ?_)
                  have b22d := iand_bd b22a b22b b22e (by first | decide | omega) (by first | decide | omega)
                  have b22x := iand255 b22a b22b b22e
                  refine r_iastK hX hP rfl al_105 tpa_s (by first | decide | omega) (by first | decide | omega) (by first | decide | omega) (by first | decide | omega) (fun h23 => ?_)
                  refine r_ex hX hP 2 (pc' := 35) (st' := [(2, this), (2, this)]) (lo' := [(0, (2, this)), (1, (0, four)), (2, (0, (((24 + (-8)) + (-8)) + (-8))))]) rfl ?_
                  refine r_getKI hX hP rfl fl_X6_31_131 hS (x := (((l0 + 1) + 1) + 1)) h18 ?_
                  refine r_ex hX hP 2 (pc' := 40) (st' := [(0, ((((l0 + 1) + 1) + 1) + 1)), (2, this)]) (lo' := [(0, (2, this)), (1, (0, four)), (2, (0, (((24 + (-8)) + (-8)) + (-8))))]) rfl ?_
                  refine r_putIK hX hP rfl fp_X6_31_131 hS (by first | decide | omega) (by first | decide | omega) (fun h24 => ?_)
                  refine r_ex hX hP 3 (pc' := 4) (st' := [(0, ((((24 + (-8)) + (-8)) + (-8)) + (-8)))]) (lo' := [(0, (2, this)), (1, (0, four)), (2, (0, ((((24 + (-8)) + (-8)) + (-8)) + (-8))))]) rfl ?_
                  refine r_if_lt hX hP rfl (tgt := 49) rfl (by first | decide | omega) (by first | decide | omega) (fun c25 => ?_) (fun c25 => ?_)
                  · skip
                    have t26 : ∀ i : Int, (up (up (up (up (up (up (up (up G 105 tpa l0 b4) 131 this 0 (l0 + 1)) 105 tpa (l0 + 1) b10) 131 this 0 ((l0 + 1) + 1)) 105 tpa ((l0 + 1) + 1) b16) 131 this 0 (((l0 + 1) + 1) + 1)) 105 tpa (((l0 + 1) + 1) + 1) b22) 131 this 0 ((((l0 + 1) + 1) + 1) + 1)) 105 tpa i = layB (fun j => G 105 tpa j) l0 four i := by
                      intro i
                      have u0 : (up (up (up (up (up (up (up (up G 105 tpa l0 b4) 131 this 0 (l0 + 1)) 105 tpa (l0 + 1) b10) 131 this 0 ((l0 + 1) + 1)) 105 tpa ((l0 + 1) + 1) b16) 131 this 0 (((l0 + 1) + 1) + 1)) 105 tpa (((l0 + 1) + 1) + 1) b22) 131 this 0 ((((l0 + 1) + 1) + 1) + 1)) 105 tpa i = if i = (((l0 + 1) + 1) + 1) then b22 else (up (up (up (up (up (up G 105 tpa l0 b4) 131 this 0 (l0 + 1)) 105 tpa (l0 + 1) b10) 131 this 0 ((l0 + 1) + 1)) 105 tpa ((l0 + 1) + 1) b16) 131 this 0 (((l0 + 1) + 1) + 1)) 105 tpa i := up_if _ _ _ _ _ _
                      have u1 : (up (up (up (up (up (up G 105 tpa l0 b4) 131 this 0 (l0 + 1)) 105 tpa (l0 + 1) b10) 131 this 0 ((l0 + 1) + 1)) 105 tpa ((l0 + 1) + 1) b16) 131 this 0 (((l0 + 1) + 1) + 1)) 105 tpa i = if i = ((l0 + 1) + 1) then b16 else (up (up (up (up G 105 tpa l0 b4) 131 this 0 (l0 + 1)) 105 tpa (l0 + 1) b10) 131 this 0 ((l0 + 1) + 1)) 105 tpa i := up_if _ _ _ _ _ _
                      have u2 : (up (up (up (up G 105 tpa l0 b4) 131 this 0 (l0 + 1)) 105 tpa (l0 + 1) b10) 131 this 0 ((l0 + 1) + 1)) 105 tpa i = if i = (l0 + 1) then b10 else (up (up G 105 tpa l0 b4) 131 this 0 (l0 + 1)) 105 tpa i := up_if _ _ _ _ _ _
                      have u3 : (up (up G 105 tpa l0 b4) 131 this 0 (l0 + 1)) 105 tpa i = if i = l0 then b4 else G 105 tpa i := up_if _ _ _ _ _ _
                      have q0 := byt_0 four
                      have q1 := byt_1 four
                      have q2 := byt_2 four
                      have q3 := byt_3 four
                      have hG : G 105 tpa i = G 105 tpa i := rfl
                      rw [u0, u1, u2, u3, hG]
                      show _ = (if i = l0 + 3 then byt four 3 else if i = l0 + 2 then byt four 2 else if i = l0 + 1 then byt four 1 else if i = l0 then byt four 0 else G 105 tpa i)
                      clear u0 u1 u2 u3
                      rcases (by omega : i = l0 + 3 ∨ i = l0 + 2 ∨ i = l0 + 1 ∨ i = l0 ∨ (i ≠ l0 + 3 ∧ i ≠ l0 + 2 ∧ i ≠ l0 + 1 ∧ i ≠ l0)) with cc | cc | cc | cc | cc <;> (repeat (first | rw [if_pos (by first | decide | omega)] | rw [if_neg (by first | decide | omega)])) <;> omega
                    exact r_retV hX hP rfl rfl (by first | decide | omega) (by first | decide | omega) ⟨rfl, ⟨_, (hw_up (hw_up (hw_up (hw_up (hw_up (hw_up (hw_up (hw_up (hw_refl _ _) rfl) rfl) rfl) rfl) rfl) rfl) rfl) rfl).symm⟩, rfl, ((((l0 + 1) + 1) + 1) + 1), h24, (by first | decide | omega), t26⟩
                  · skip
                    exfalso; omega
set_option maxRecDepth 100000 in
set_option maxHeartbeats 4000000 in
theorem c_X11_feedT (E : En) (S : Sg) (G : Gh) (this : Int) (a : Int) (b : Int) (c : Int) (d : Int) (e : Int) (hS : S this = 128) (rdr : Int) (rdr_e : rdr = G 128 this 16) (rdr_s : S rdr = 131) (len : Int) (len_e : len = G 131 rdr 0) (tpa : Int) (tpa_e : tpa = G 131 rdr 3) (tpa_s : S tpa = 105) (a_a : (-2147483648) ≤ a) (a_b : a ≤ 2147483647) (b_a : (-2147483648) ≤ b) (b_b : b ≤ 2147483647) (c_a : (-2147483648) ≤ c) (c_b : c ≤ 2147483647) (d_a : (-2147483648) ≤ d) (d_b : d ≤ 2147483647) (e_a : (-2147483648) ≤ e) (e_b : e ≤ 2147483647) : Calls E mX11_feed [(2, this), (0, a), (0, b), (0, c), (0, d), (0, e)] S G 1 0 0 (fun r S' G' => S = S' ∧ (∃ G1, hw [(105, -1), (131, 0)] G G1 = G') ∧ ∃ z : Int, r = some (0, z) ∧ ∃ n2 : Int, n2 = G' 131 rdr 0 ∧ (-2147483648) ≤ z ∧ z ≤ 2147483647 ∧ ((len + 20 ≤ 400 ∧ z = len + 20 ∧ n2 = len + 20) ∨ (z = -1 ∧ n2 = len ∧ ¬ (len + 20 ≤ 400))) ∧ ((z = -1 ∧ ∀ i : Int, G' 105 tpa i = G 105 tpa i) ∨ (z = len + 20 ∧ ∀ i : Int, G' 105 tpa i = (layB (layB (layB (layB (layB (fun j => G 105 tpa j) (len) a) (len + 4) b) (len + 8) c) (len + 12) d) (len + 16) e) i))) := by
  refine calls_by [(0, (2, this)), (1, (0, a)), (2, (0, b)), (3, (0, c)), (4, (0, d)), (5, (0, e))] rfl rfl (Nat.le_of_ble_eq_true rfl) (fun X hX => ?_)
  have hP := hPX11_feed
  refine r_peekI hX (tl_131 0 rfl (by decide)) rdr_s (fun len_o len_oe len_oa len_ob => ?_)
  obtain rfl : len = len_o := len_e.trans len_oe.symm
  refine r_ex hX hP 1 (pc' := 1) (st' := [(2, this)]) (lo' := [(0, (2, this)), (1, (0, a)), (2, (0, b)), (3, (0, c)), (4, (0, d)), (5, (0, e))]) rfl ?_
  refine r_getKR hX hP rfl fl_X11_71_128 hS (x := rdr) rdr_e ?_
  refine r_getKI hX hP rfl fl_X11_157_131 rdr_s (x := len) len_e ?_
  refine r_ex hX hP 3 (pc' := 13) (st' := [(0, 400), (0, (len + 20))]) (lo' := [(0, (2, this)), (1, (0, a)), (2, (0, b)), (3, (0, c)), (4, (0, d)), (5, (0, e))]) rfl ?_
  refine r_ic_le hX hP rfl (tgt := 18) rfl (by first | decide | omega) (by first | decide | omega) (by first | decide | omega) (by first | decide | omega) (fun c1 => ?_) (fun c1 => ?_)
  · skip
    refine r_ex hX hP 1 (pc' := 19) (st' := [(2, this)]) (lo' := [(0, (2, this)), (1, (0, a)), (2, (0, b)), (3, (0, c)), (4, (0, d)), (5, (0, e))]) rfl ?_
    refine r_getKR hX hP rfl fl_X11_71_128 hS (x := rdr) rdr_e ?_
    refine r_ex hX hP 1 (pc' := 23) (st' := [(0, a), (2, rdr)]) (lo' := [(0, (2, this)), (1, (0, a)), (2, (0, b)), (3, (0, c)), (4, (0, d)), (5, (0, e))]) rfl ?_
    refine r_callV gd hX hP rfl cv_X11_160_131 rdr_s (d' := 0) (mc' := 0) (ms' := 0) (as' := [(0, a)]) (st := []) (by first | decide | omega) (by first | decide | omega) (by first | decide | omega) rfl rfl (Nat.le_of_ble_eq_true rfl) (c_X6_putT E S G rdr a rdr_s len len_e tpa tpa_e tpa_s (by first | decide | omega) (by first | decide | omega) (by first | decide | omega)) ?_
    rintro _ _ _ ⟨rfl, ⟨G2, rfl⟩, rfl, leh3, leh3e, f4, f5⟩
    refine r_peekI hX (tl_131 0 rfl (by decide)) rdr_s (fun o6 o6e o6a o6b => ?_)
    obtain rfl : leh3 = o6 := leh3e.trans o6e.symm
    have ly7 : ∀ i : Int, (hw [(105, -1), (131, 0)] G G2) 105 tpa i = (layB (fun j => G 105 tpa j) (len) a) i := f5
    refine r_ex hX hP 1 (pc' := 27) (st' := [(2, this)]) (lo' := [(0, (2, this)), (1, (0, a)), (2, (0, b)), (3, (0, c)), (4, (0, d)), (5, (0, e))]) rfl ?_
    refine r_getKR hX hP rfl fl_X11_71_128 hS (x := rdr) rdr_e ?_
    refine r_ex hX hP 1 (pc' := 31) (st' := [(0, b), (2, rdr)]) (lo' := [(0, (2, this)), (1, (0, a)), (2, (0, b)), (3, (0, c)), (4, (0, d)), (5, (0, e))]) rfl ?_
    refine r_callV gd hX hP rfl cv_X11_160_131 rdr_s (d' := 0) (mc' := 0) (ms' := 0) (as' := [(0, b)]) (st := []) (by first | decide | omega) (by first | decide | omega) (by first | decide | omega) rfl rfl (Nat.le_of_ble_eq_true rfl) (c_X6_putT E S (hw [(105, -1), (131, 0)] G G2) rdr b rdr_s leh3 leh3e tpa tpa_e tpa_s (by first | decide | omega) (by first | decide | omega) (by first | decide | omega)) ?_
    rintro _ _ _ ⟨rfl, ⟨G8, rfl⟩, rfl, leh9, leh9e, f10, f11⟩
    refine r_peekI hX (tl_131 0 rfl (by decide)) rdr_s (fun o12 o12e o12a o12b => ?_)
    obtain rfl : leh9 = o12 := leh9e.trans o12e.symm
    have ly13 : ∀ i : Int, (hw [(105, -1), (131, 0)] (hw [(105, -1), (131, 0)] G G2) G8) 105 tpa i = (layB (layB (fun j => G 105 tpa j) (len) a) (len + 4) b) i := fun i => by have q := f11 i; rw [show leh3 = len + 4 from by omega] at q; exact q.trans (layB_cong ly7 _ _ i)
    refine r_ex hX hP 1 (pc' := 35) (st' := [(2, this)]) (lo' := [(0, (2, this)), (1, (0, a)), (2, (0, b)), (3, (0, c)), (4, (0, d)), (5, (0, e))]) rfl ?_
    refine r_getKR hX hP rfl fl_X11_71_128 hS (x := rdr) rdr_e ?_
    refine r_ex hX hP 1 (pc' := 39) (st' := [(0, c), (2, rdr)]) (lo' := [(0, (2, this)), (1, (0, a)), (2, (0, b)), (3, (0, c)), (4, (0, d)), (5, (0, e))]) rfl ?_
    refine r_callV gd hX hP rfl cv_X11_160_131 rdr_s (d' := 0) (mc' := 0) (ms' := 0) (as' := [(0, c)]) (st := []) (by first | decide | omega) (by first | decide | omega) (by first | decide | omega) rfl rfl (Nat.le_of_ble_eq_true rfl) (c_X6_putT E S (hw [(105, -1), (131, 0)] (hw [(105, -1), (131, 0)] G G2) G8) rdr c rdr_s leh9 leh9e tpa tpa_e tpa_s (by first | decide | omega) (by first | decide | omega) (by first | decide | omega)) ?_
    rintro _ _ _ ⟨rfl, ⟨G14, rfl⟩, rfl, leh15, leh15e, f16, f17⟩
    refine r_peekI hX (tl_131 0 rfl (by decide)) rdr_s (fun o18 o18e o18a o18b => ?_)
    obtain rfl : leh15 = o18 := leh15e.trans o18e.symm
    have ly19 : ∀ i : Int, (hw [(105, -1), (131, 0)] (hw [(105, -1), (131, 0)] (hw [(105, -1), (131, 0)] G G2) G8) G14) 105 tpa i = (layB (layB (layB (fun j => G 105 tpa j) (len) a) (len + 4) b) (len + 8) c) i := fun i => by have q := f17 i; rw [show leh9 = len + 8 from by omega] at q; exact q.trans (layB_cong ly13 _ _ i)
    refine r_ex hX hP 1 (pc' := 43) (st' := [(2, this)]) (lo' := [(0, (2, this)), (1, (0, a)), (2, (0, b)), (3, (0, c)), (4, (0, d)), (5, (0, e))]) rfl ?_
    refine r_getKR hX hP rfl fl_X11_71_128 hS (x := rdr) rdr_e ?_
    refine r_ex hX hP 1 (pc' := 48) (st' := [(0, d), (2, rdr)]) (lo' := [(0, (2, this)), (1, (0, a)), (2, (0, b)), (3, (0, c)), (4, (0, d)), (5, (0, e))]) rfl ?_
    refine r_callV gd hX hP rfl cv_X11_160_131 rdr_s (d' := 0) (mc' := 0) (ms' := 0) (as' := [(0, d)]) (st := []) (by first | decide | omega) (by first | decide | omega) (by first | decide | omega) rfl rfl (Nat.le_of_ble_eq_true rfl) (c_X6_putT E S (hw [(105, -1), (131, 0)] (hw [(105, -1), (131, 0)] (hw [(105, -1), (131, 0)] G G2) G8) G14) rdr d rdr_s leh15 leh15e tpa tpa_e tpa_s (by first | decide | omega) (by first | decide | omega) (by first | decide | omega)) ?_
    rintro _ _ _ ⟨rfl, ⟨G20, rfl⟩, rfl, leh21, leh21e, f22, f23⟩
    refine r_peekI hX (tl_131 0 rfl (by decide)) rdr_s (fun o24 o24e o24a o24b => ?_)
    obtain rfl : leh21 = o24 := leh21e.trans o24e.symm
    have ly25 : ∀ i : Int, (hw [(105, -1), (131, 0)] (hw [(105, -1), (131, 0)] (hw [(105, -1), (131, 0)] (hw [(105, -1), (131, 0)] G G2) G8) G14) G20) 105 tpa i = (layB (layB (layB (layB (fun j => G 105 tpa j) (len) a) (len + 4) b) (len + 8) c) (len + 12) d) i := fun i => by have q := f23 i; rw [show leh15 = len + 12 from by omega] at q; exact q.trans (layB_cong ly19 _ _ i)
    refine r_ex hX hP 1 (pc' := 52) (st' := [(2, this)]) (lo' := [(0, (2, this)), (1, (0, a)), (2, (0, b)), (3, (0, c)), (4, (0, d)), (5, (0, e))]) rfl ?_
    refine r_getKR hX hP rfl fl_X11_71_128 hS (x := rdr) rdr_e ?_
    refine r_ex hX hP 1 (pc' := 57) (st' := [(0, e), (2, rdr)]) (lo' := [(0, (2, this)), (1, (0, a)), (2, (0, b)), (3, (0, c)), (4, (0, d)), (5, (0, e))]) rfl ?_
    refine r_callV gd hX hP rfl cv_X11_160_131 rdr_s (d' := 0) (mc' := 0) (ms' := 0) (as' := [(0, e)]) (st := []) (by first | decide | omega) (by first | decide | omega) (by first | decide | omega) rfl rfl (Nat.le_of_ble_eq_true rfl) (c_X6_putT E S (hw [(105, -1), (131, 0)] (hw [(105, -1), (131, 0)] (hw [(105, -1), (131, 0)] (hw [(105, -1), (131, 0)] G G2) G8) G14) G20) rdr e rdr_s leh21 leh21e tpa tpa_e tpa_s (by first | decide | omega) (by first | decide | omega) (by first | decide | omega)) ?_
    rintro _ _ _ ⟨rfl, ⟨G26, rfl⟩, rfl, leh27, leh27e, f28, f29⟩
    refine r_peekI hX (tl_131 0 rfl (by decide)) rdr_s (fun o30 o30e o30a o30b => ?_)
    obtain rfl : leh27 = o30 := leh27e.trans o30e.symm
    have ly31 : ∀ i : Int, (hw [(105, -1), (131, 0)] (hw [(105, -1), (131, 0)] (hw [(105, -1), (131, 0)] (hw [(105, -1), (131, 0)] (hw [(105, -1), (131, 0)] G G2) G8) G14) G20) G26) 105 tpa i = (layB (layB (layB (layB (layB (fun j => G 105 tpa j) (len) a) (len + 4) b) (len + 8) c) (len + 12) d) (len + 16) e) i := fun i => by have q := f29 i; rw [show leh21 = len + 16 from by omega] at q; exact q.trans (layB_cong ly25 _ _ i)
    refine r_ex hX hP 1 (pc' := 61) (st' := [(2, this)]) (lo' := [(0, (2, this)), (1, (0, a)), (2, (0, b)), (3, (0, c)), (4, (0, d)), (5, (0, e))]) rfl ?_
    refine r_getKR hX hP rfl fl_X11_71_128 hS (x := rdr) rdr_e ?_
    refine r_getKI hX hP rfl fl_X11_157_131 rdr_s (x := leh27) leh27e ?_
    exact r_retI hX hP rfl rfl (by first | decide | omega) (by first | decide | omega) ⟨rfl, ⟨_, (hw_sub (hw_sub (hw_sub (hw_sub (hw_sub (hw_refl _ _) rfl) rfl) rfl) rfl) rfl).symm⟩, leh27, rfl, leh27, leh27e, (by first | decide | omega), (by first | decide | omega), (by first | decide | omega), (Or.inr ⟨by omega, fun i => ly31 i⟩)⟩
  · skip
    refine r_ex hX hP 1 (pc' := 17) (st' := [(0, (-1))]) (lo' := [(0, (2, this)), (1, (0, a)), (2, (0, b)), (3, (0, c)), (4, (0, d)), (5, (0, e))]) rfl ?_
    exact r_retI hX hP rfl rfl (by first | decide | omega) (by first | decide | omega) ⟨rfl, ⟨_, (hw_refl _ _).symm⟩, (-1), rfl, len, len_e, (by first | decide | omega), (by first | decide | omega), (by first | decide | omega), (Or.inl ⟨rfl, fun i => rfl⟩)⟩
