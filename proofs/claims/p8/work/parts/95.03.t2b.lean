def RdC (T : Tp) (n : Int) (s : Rg) (G : Gh) (r tx : Int) : Prop := (∀ i : Int, G 105 (G 131 r 3) i = T i) ∧ (G 131 r 4 = n) ∧ (G 131 r 9 = tx) ∧ (G 131 r 6 = tkK T n (s 0)) ∧ (G 131 r 7 = tkS T n (s 0)) ∧ (G 131 r 5 = tkE T n (s 0)) ∧ (tkK T n (s 0) = 2 → G 131 r 8 = tkV T n (s 0)) ∧ (G 131 r 1 = s 1) ∧ (G 131 r 2 = s 2) ∧ (G 131 r 10 = s 3) ∧ (G 136 tx 1 = s 4) ∧ (G 136 tx 2 = s 5) ∧ (G 131 r 13 = s 6) ∧ (G 131 r 14 = s 7) ∧ (G 131 r 11 = s 8) ∧ (G 136 tx 0 = s 9) ∧ (0 < s 8 → G 106 (G 131 r 12) 0 = s 10) ∧ (1 < s 8 → G 106 (G 131 r 12) 1 = s 11) ∧ (2 < s 8 → G 106 (G 131 r 12) 2 = s 12) ∧ (0 < s 4 → G 107 (G 131 r 15) 0 = s 20) ∧ (1 < s 4 → G 107 (G 131 r 15) 1 = s 21) ∧ (2 < s 4 → G 107 (G 131 r 15) 2 = s 22) ∧ (0 < s 4 → G 107 (G 131 r 16) 0 = s 30) ∧ (1 < s 4 → G 107 (G 131 r 16) 1 = s 31) ∧ (2 < s 4 → G 107 (G 131 r 16) 2 = s 32) ∧ (G 124 (G 136 tx 9) 0 = s 40) ∧ (G 124 (G 136 tx 9) 1 = s 41) ∧ (G 124 (G 136 tx 9) 2 = s 42) ∧ (G 131 r 15 ≠ G 131 r 16) ∧ (G 136 tx 9 ≠ G 136 tx 10) ∧ (0 ≤ s 0) ∧ (s 0 ≤ n) ∧ (n ≤ 400)
def RdC0 (T : Tp) (n a : Int) (s : Rg) (G : Gh) (r tx : Int) : Prop := (∀ i : Int, G 105 (G 131 r 3) i = T i) ∧ (G 131 r 4 = n) ∧ (G 131 r 9 = tx) ∧ (G 131 r 1 = s 1) ∧ (G 131 r 2 = s 2) ∧ (G 131 r 10 = s 3) ∧ (G 136 tx 1 = s 4) ∧ (G 136 tx 2 = s 5) ∧ (G 131 r 13 = s 6) ∧ (G 131 r 14 = s 7) ∧ (G 131 r 11 = s 8) ∧ (G 136 tx 0 = s 9) ∧ (0 < s 8 → G 106 (G 131 r 12) 0 = s 10) ∧ (1 < s 8 → G 106 (G 131 r 12) 1 = s 11) ∧ (2 < s 8 → G 106 (G 131 r 12) 2 = s 12) ∧ (0 < s 4 → G 107 (G 131 r 15) 0 = s 20) ∧ (1 < s 4 → G 107 (G 131 r 15) 1 = s 21) ∧ (2 < s 4 → G 107 (G 131 r 15) 2 = s 22) ∧ (0 < s 4 → G 107 (G 131 r 16) 0 = s 30) ∧ (1 < s 4 → G 107 (G 131 r 16) 1 = s 31) ∧ (2 < s 4 → G 107 (G 131 r 16) 2 = s 32) ∧ (G 124 (G 136 tx 9) 0 = s 40) ∧ (G 124 (G 136 tx 9) 1 = s 41) ∧ (G 124 (G 136 tx 9) 2 = s 42) ∧ (G 131 r 15 ≠ G 131 r 16) ∧ (G 136 tx 9 ≠ G 136 tx 10) ∧ (n ≤ 400) ∧ (G 131 r 5 = a) ∧ (0 ≤ a) ∧ (a ≤ n)
section RDZ
variable {T : Tp} {n a : Int} {s : Rg} {G : Gh} {r tx : Int}
theorem rz_tape (h : RdC0 T n a s G r tx) : ∀ i : Int, G 105 (G 131 r 3) i = T i := h.1
theorem rz_end (h : RdC0 T n a s G r tx) : G 131 r 4 = n := h.2.1
theorem rz_text (h : RdC0 T n a s G r tx) : G 131 r 9 = tx := h.2.2.1
theorem rz_flaw (h : RdC0 T n a s G r tx) : G 131 r 1 = s 1 := h.2.2.2.1
theorem rz_place (h : RdC0 T n a s G r tx) : G 131 r 2 = s 2 := h.2.2.2.2.1
theorem rz_told (h : RdC0 T n a s G r tx) : G 131 r 10 = s 3 := h.2.2.2.2.2.1
theorem rz_cc (h : RdC0 T n a s G r tx) : G 136 tx 1 = s 4 := h.2.2.2.2.2.2.1
theorem rz_fb (h : RdC0 T n a s G r tx) : G 136 tx 2 = s 5 := h.2.2.2.2.2.2.2.1
theorem rz_ti (h : RdC0 T n a s G r tx) : G 131 r 13 = s 6 := h.2.2.2.2.2.2.2.2.1
theorem rz_to (h : RdC0 T n a s G r tx) : G 131 r 14 = s 7 := h.2.2.2.2.2.2.2.2.2.1
theorem rz_dp (h : RdC0 T n a s G r tx) : G 131 r 11 = s 8 := h.2.2.2.2.2.2.2.2.2.2.1
theorem rz_size (h : RdC0 T n a s G r tx) : G 136 tx 0 = s 9 := h.2.2.2.2.2.2.2.2.2.2.2.1
theorem rz_o0 (h : RdC0 T n a s G r tx) : 0 < s 8 → G 106 (G 131 r 12) 0 = s 10 := h.2.2.2.2.2.2.2.2.2.2.2.2.1
theorem rz_o1 (h : RdC0 T n a s G r tx) : 1 < s 8 → G 106 (G 131 r 12) 1 = s 11 := h.2.2.2.2.2.2.2.2.2.2.2.2.2.1
theorem rz_o2 (h : RdC0 T n a s G r tx) : 2 < s 8 → G 106 (G 131 r 12) 2 = s 12 := h.2.2.2.2.2.2.2.2.2.2.2.2.2.2.1
theorem rz_a0 (h : RdC0 T n a s G r tx) : 0 < s 4 → G 107 (G 131 r 15) 0 = s 20 := h.2.2.2.2.2.2.2.2.2.2.2.2.2.2.2.1
theorem rz_a1 (h : RdC0 T n a s G r tx) : 1 < s 4 → G 107 (G 131 r 15) 1 = s 21 := h.2.2.2.2.2.2.2.2.2.2.2.2.2.2.2.2.1
theorem rz_a2 (h : RdC0 T n a s G r tx) : 2 < s 4 → G 107 (G 131 r 15) 2 = s 22 := h.2.2.2.2.2.2.2.2.2.2.2.2.2.2.2.2.2.1
theorem rz_b0 (h : RdC0 T n a s G r tx) : 0 < s 4 → G 107 (G 131 r 16) 0 = s 30 := h.2.2.2.2.2.2.2.2.2.2.2.2.2.2.2.2.2.2.1
theorem rz_b1 (h : RdC0 T n a s G r tx) : 1 < s 4 → G 107 (G 131 r 16) 1 = s 31 := h.2.2.2.2.2.2.2.2.2.2.2.2.2.2.2.2.2.2.2.1
theorem rz_b2 (h : RdC0 T n a s G r tx) : 2 < s 4 → G 107 (G 131 r 16) 2 = s 32 := h.2.2.2.2.2.2.2.2.2.2.2.2.2.2.2.2.2.2.2.2.1
theorem rz_m0 (h : RdC0 T n a s G r tx) : G 124 (G 136 tx 9) 0 = s 40 := h.2.2.2.2.2.2.2.2.2.2.2.2.2.2.2.2.2.2.2.2.2.1
theorem rz_m1 (h : RdC0 T n a s G r tx) : G 124 (G 136 tx 9) 1 = s 41 := h.2.2.2.2.2.2.2.2.2.2.2.2.2.2.2.2.2.2.2.2.2.2.1
theorem rz_m2 (h : RdC0 T n a s G r tx) : G 124 (G 136 tx 9) 2 = s 42 := h.2.2.2.2.2.2.2.2.2.2.2.2.2.2.2.2.2.2.2.2.2.2.2.1
theorem rz_ne1 (h : RdC0 T n a s G r tx) : G 131 r 15 ≠ G 131 r 16 := h.2.2.2.2.2.2.2.2.2.2.2.2.2.2.2.2.2.2.2.2.2.2.2.2.1
theorem rz_ne2 (h : RdC0 T n a s G r tx) : G 136 tx 9 ≠ G 136 tx 10 := h.2.2.2.2.2.2.2.2.2.2.2.2.2.2.2.2.2.2.2.2.2.2.2.2.2.1
theorem rz_n4 (h : RdC0 T n a s G r tx) : n ≤ 400 := h.2.2.2.2.2.2.2.2.2.2.2.2.2.2.2.2.2.2.2.2.2.2.2.2.2.2.1
theorem rz_at (h : RdC0 T n a s G r tx) : G 131 r 5 = a := h.2.2.2.2.2.2.2.2.2.2.2.2.2.2.2.2.2.2.2.2.2.2.2.2.2.2.2.1
theorem rz_y0 (h : RdC0 T n a s G r tx) : 0 ≤ a := h.2.2.2.2.2.2.2.2.2.2.2.2.2.2.2.2.2.2.2.2.2.2.2.2.2.2.2.2.1
theorem rz_y1 (h : RdC0 T n a s G r tx) : a ≤ n := h.2.2.2.2.2.2.2.2.2.2.2.2.2.2.2.2.2.2.2.2.2.2.2.2.2.2.2.2.2
theorem rz_mk (c0 : ∀ i : Int, G 105 (G 131 r 3) i = T i) (c1 : G 131 r 4 = n) (c2 : G 131 r 9 = tx) (c3 : G 131 r 1 = s 1) (c4 : G 131 r 2 = s 2) (c5 : G 131 r 10 = s 3) (c6 : G 136 tx 1 = s 4) (c7 : G 136 tx 2 = s 5) (c8 : G 131 r 13 = s 6) (c9 : G 131 r 14 = s 7) (c10 : G 131 r 11 = s 8) (c11 : G 136 tx 0 = s 9) (c12 : 0 < s 8 → G 106 (G 131 r 12) 0 = s 10) (c13 : 1 < s 8 → G 106 (G 131 r 12) 1 = s 11) (c14 : 2 < s 8 → G 106 (G 131 r 12) 2 = s 12) (c15 : 0 < s 4 → G 107 (G 131 r 15) 0 = s 20) (c16 : 1 < s 4 → G 107 (G 131 r 15) 1 = s 21) (c17 : 2 < s 4 → G 107 (G 131 r 15) 2 = s 22) (c18 : 0 < s 4 → G 107 (G 131 r 16) 0 = s 30) (c19 : 1 < s 4 → G 107 (G 131 r 16) 1 = s 31) (c20 : 2 < s 4 → G 107 (G 131 r 16) 2 = s 32) (c21 : G 124 (G 136 tx 9) 0 = s 40) (c22 : G 124 (G 136 tx 9) 1 = s 41) (c23 : G 124 (G 136 tx 9) 2 = s 42) (c24 : G 131 r 15 ≠ G 131 r 16) (c25 : G 136 tx 9 ≠ G 136 tx 10) (c26 : n ≤ 400) (c27 : G 131 r 5 = a) (c28 : 0 ≤ a) (c29 : a ≤ n) : RdC0 T n a s G r tx := ⟨c0, c1, c2, c3, c4, c5, c6, c7, c8, c9, c10, c11, c12, c13, c14, c15, c16, c17, c18, c19, c20, c21, c22, c23, c24, c25, c26, c27, c28, c29⟩
theorem rz_tpa {b : Int} (h : RdC0 T n a s G r tx) (e : b = G 131 r 3) : ∀ i : Int, G 105 b i = T i := fun i => by rw [e]; exact rz_tape h i
theorem rz_tpx {b i x : Int} (h : RdC0 T n a s G r tx) (e : b = G 131 r 3) (ex : x = G 105 b i) : x = T i := ex.trans (rz_tpa h e i)
end RDZ
section RDQ
variable {T : Tp} {n : Int} {s s' : Rg} {G : Gh} {r tx : Int}
theorem rq_tape (h : RdC T n s G r tx) : ∀ i : Int, G 105 (G 131 r 3) i = T i := h.1
theorem rq_end (h : RdC T n s G r tx) : G 131 r 4 = n := h.2.1
theorem rq_text (h : RdC T n s G r tx) : G 131 r 9 = tx := h.2.2.1
theorem rq_tok (h : RdC T n s G r tx) : G 131 r 6 = tkK T n (s 0) := h.2.2.2.1
theorem rq_start (h : RdC T n s G r tx) : G 131 r 7 = tkS T n (s 0) := h.2.2.2.2.1
theorem rq_at (h : RdC T n s G r tx) : G 131 r 5 = tkE T n (s 0) := h.2.2.2.2.2.1
theorem rq_val (h : RdC T n s G r tx) : tkK T n (s 0) = 2 → G 131 r 8 = tkV T n (s 0) := h.2.2.2.2.2.2.1
theorem rq_flaw (h : RdC T n s G r tx) : G 131 r 1 = s 1 := h.2.2.2.2.2.2.2.1
theorem rq_place (h : RdC T n s G r tx) : G 131 r 2 = s 2 := h.2.2.2.2.2.2.2.2.1
theorem rq_told (h : RdC T n s G r tx) : G 131 r 10 = s 3 := h.2.2.2.2.2.2.2.2.2.1
theorem rq_cc (h : RdC T n s G r tx) : G 136 tx 1 = s 4 := h.2.2.2.2.2.2.2.2.2.2.1
theorem rq_fb (h : RdC T n s G r tx) : G 136 tx 2 = s 5 := h.2.2.2.2.2.2.2.2.2.2.2.1
theorem rq_ti (h : RdC T n s G r tx) : G 131 r 13 = s 6 := h.2.2.2.2.2.2.2.2.2.2.2.2.1
theorem rq_to (h : RdC T n s G r tx) : G 131 r 14 = s 7 := h.2.2.2.2.2.2.2.2.2.2.2.2.2.1
theorem rq_dp (h : RdC T n s G r tx) : G 131 r 11 = s 8 := h.2.2.2.2.2.2.2.2.2.2.2.2.2.2.1
theorem rq_size (h : RdC T n s G r tx) : G 136 tx 0 = s 9 := h.2.2.2.2.2.2.2.2.2.2.2.2.2.2.2.1
theorem rq_o0 (h : RdC T n s G r tx) : 0 < s 8 → G 106 (G 131 r 12) 0 = s 10 := h.2.2.2.2.2.2.2.2.2.2.2.2.2.2.2.2.1
theorem rq_o1 (h : RdC T n s G r tx) : 1 < s 8 → G 106 (G 131 r 12) 1 = s 11 := h.2.2.2.2.2.2.2.2.2.2.2.2.2.2.2.2.2.1
theorem rq_o2 (h : RdC T n s G r tx) : 2 < s 8 → G 106 (G 131 r 12) 2 = s 12 := h.2.2.2.2.2.2.2.2.2.2.2.2.2.2.2.2.2.2.1
theorem rq_a0 (h : RdC T n s G r tx) : 0 < s 4 → G 107 (G 131 r 15) 0 = s 20 := h.2.2.2.2.2.2.2.2.2.2.2.2.2.2.2.2.2.2.2.1
theorem rq_a1 (h : RdC T n s G r tx) : 1 < s 4 → G 107 (G 131 r 15) 1 = s 21 := h.2.2.2.2.2.2.2.2.2.2.2.2.2.2.2.2.2.2.2.2.1
theorem rq_a2 (h : RdC T n s G r tx) : 2 < s 4 → G 107 (G 131 r 15) 2 = s 22 := h.2.2.2.2.2.2.2.2.2.2.2.2.2.2.2.2.2.2.2.2.2.1
theorem rq_b0 (h : RdC T n s G r tx) : 0 < s 4 → G 107 (G 131 r 16) 0 = s 30 := h.2.2.2.2.2.2.2.2.2.2.2.2.2.2.2.2.2.2.2.2.2.2.1
theorem rq_b1 (h : RdC T n s G r tx) : 1 < s 4 → G 107 (G 131 r 16) 1 = s 31 := h.2.2.2.2.2.2.2.2.2.2.2.2.2.2.2.2.2.2.2.2.2.2.2.1
theorem rq_b2 (h : RdC T n s G r tx) : 2 < s 4 → G 107 (G 131 r 16) 2 = s 32 := h.2.2.2.2.2.2.2.2.2.2.2.2.2.2.2.2.2.2.2.2.2.2.2.2.1
theorem rq_m0 (h : RdC T n s G r tx) : G 124 (G 136 tx 9) 0 = s 40 := h.2.2.2.2.2.2.2.2.2.2.2.2.2.2.2.2.2.2.2.2.2.2.2.2.2.1
theorem rq_m1 (h : RdC T n s G r tx) : G 124 (G 136 tx 9) 1 = s 41 := h.2.2.2.2.2.2.2.2.2.2.2.2.2.2.2.2.2.2.2.2.2.2.2.2.2.2.1
theorem rq_m2 (h : RdC T n s G r tx) : G 124 (G 136 tx 9) 2 = s 42 := h.2.2.2.2.2.2.2.2.2.2.2.2.2.2.2.2.2.2.2.2.2.2.2.2.2.2.2.1
theorem rq_ne1 (h : RdC T n s G r tx) : G 131 r 15 ≠ G 131 r 16 := h.2.2.2.2.2.2.2.2.2.2.2.2.2.2.2.2.2.2.2.2.2.2.2.2.2.2.2.2.1
theorem rq_ne2 (h : RdC T n s G r tx) : G 136 tx 9 ≠ G 136 tx 10 := h.2.2.2.2.2.2.2.2.2.2.2.2.2.2.2.2.2.2.2.2.2.2.2.2.2.2.2.2.2.1
theorem rq_p0 (h : RdC T n s G r tx) : 0 ≤ s 0 := h.2.2.2.2.2.2.2.2.2.2.2.2.2.2.2.2.2.2.2.2.2.2.2.2.2.2.2.2.2.2.1
theorem rq_p1 (h : RdC T n s G r tx) : s 0 ≤ n := h.2.2.2.2.2.2.2.2.2.2.2.2.2.2.2.2.2.2.2.2.2.2.2.2.2.2.2.2.2.2.2.1
theorem rq_n4 (h : RdC T n s G r tx) : n ≤ 400 := h.2.2.2.2.2.2.2.2.2.2.2.2.2.2.2.2.2.2.2.2.2.2.2.2.2.2.2.2.2.2.2.2
theorem rd_mk (c0 : ∀ i : Int, G 105 (G 131 r 3) i = T i) (c1 : G 131 r 4 = n) (c2 : G 131 r 9 = tx) (c3 : G 131 r 6 = tkK T n (s 0)) (c4 : G 131 r 7 = tkS T n (s 0)) (c5 : G 131 r 5 = tkE T n (s 0)) (c6 : tkK T n (s 0) = 2 → G 131 r 8 = tkV T n (s 0)) (c7 : G 131 r 1 = s 1) (c8 : G 131 r 2 = s 2) (c9 : G 131 r 10 = s 3) (c10 : G 136 tx 1 = s 4) (c11 : G 136 tx 2 = s 5) (c12 : G 131 r 13 = s 6) (c13 : G 131 r 14 = s 7) (c14 : G 131 r 11 = s 8) (c15 : G 136 tx 0 = s 9) (c16 : 0 < s 8 → G 106 (G 131 r 12) 0 = s 10) (c17 : 1 < s 8 → G 106 (G 131 r 12) 1 = s 11) (c18 : 2 < s 8 → G 106 (G 131 r 12) 2 = s 12) (c19 : 0 < s 4 → G 107 (G 131 r 15) 0 = s 20) (c20 : 1 < s 4 → G 107 (G 131 r 15) 1 = s 21) (c21 : 2 < s 4 → G 107 (G 131 r 15) 2 = s 22) (c22 : 0 < s 4 → G 107 (G 131 r 16) 0 = s 30) (c23 : 1 < s 4 → G 107 (G 131 r 16) 1 = s 31) (c24 : 2 < s 4 → G 107 (G 131 r 16) 2 = s 32) (c25 : G 124 (G 136 tx 9) 0 = s 40) (c26 : G 124 (G 136 tx 9) 1 = s 41) (c27 : G 124 (G 136 tx 9) 2 = s 42) (c28 : G 131 r 15 ≠ G 131 r 16) (c29 : G 136 tx 9 ≠ G 136 tx 10) (c30 : 0 ≤ s 0) (c31 : s 0 ≤ n) (c32 : n ≤ 400) : RdC T n s G r tx := ⟨c0, c1, c2, c3, c4, c5, c6, c7, c8, c9, c10, c11, c12, c13, c14, c15, c16, c17, c18, c19, c20, c21, c22, c23, c24, c25, c26, c27, c28, c29, c30, c31, c32⟩
theorem rd_cast (h : RdC T n s G r tx) (e : s = s') : RdC T n s' G r tx := e ▸ h
theorem rd_tpa {a : Int} (h : RdC T n s G r tx) (e : a = G 131 r 3) : ∀ i : Int, G 105 a i = T i := fun i => by rw [e]; exact rq_tape h i
theorem rd_tpx {a i x : Int} (h : RdC T n s G r tx) (e : a = G 131 r 3) (ex : x = G 105 a i) : x = T i := ex.trans (rd_tpa h e i)
theorem rd_opx {a i x : Int} (h : RdC T n s G r tx) (e : a = G 131 r 12) (ex : x = G 106 a i) (i0 : 0 ≤ i) (i1 : i < s 8) (i2 : i ≤ 2) : x = n3 s 10 i := by
  rw [ex, e]
  rcases (by omega : i = 0 ∨ i = 1 ∨ i = 2) with w | w | w <;> subst w
  · exact rq_o0 h i1
  · exact rq_o1 h i1
  · exact rq_o2 h i1
theorem rd_nax {a i x : Int} (h : RdC T n s G r tx) (e : a = G 131 r 15) (ex : x = G 107 a i) (i0 : 0 ≤ i) (i1 : i < s 4) (i2 : i ≤ 2) : x = n3 s 20 i := by
  rw [ex, e]
  rcases (by omega : i = 0 ∨ i = 1 ∨ i = 2) with w | w | w <;> subst w
  · exact rq_a0 h i1
  · exact rq_a1 h i1
  · exact rq_a2 h i1
theorem rd_nbx {a i x : Int} (h : RdC T n s G r tx) (e : a = G 131 r 16) (ex : x = G 107 a i) (i0 : 0 ≤ i) (i1 : i < s 4) (i2 : i ≤ 2) : x = n3 s 30 i := by
  rw [ex, e]
  rcases (by omega : i = 0 ∨ i = 1 ∨ i = 2) with w | w | w <;> subst w
  · exact rq_b0 h i1
  · exact rq_b1 h i1
  · exact rq_b2 h i1
theorem rd_mox {a i x : Int} (h : RdC T n s G r tx) (e : a = G 136 tx 9) (ex : x = G 124 a i) (i0 : 0 ≤ i) (i2 : i ≤ 2) : x = n3 s 40 i := by
  rw [ex, e]
  rcases (by omega : i = 0 ∨ i = 1 ∨ i = 2) with w | w | w <;> subst w
  · exact rq_m0 h
  · exact rq_m1 h
  · exact rq_m2 h
theorem rz_of (h : RdC T n s G r tx) : RdC0 T n (tkE T n (s 0)) s G r tx := rz_mk (rq_tape h) (rq_end h) (rq_text h) (rq_flaw h) (rq_place h) (rq_told h) (rq_cc h) (rq_fb h) (rq_ti h) (rq_to h) (rq_dp h) (rq_size h) (rq_o0 h) (rq_o1 h) (rq_o2 h) (rq_a0 h) (rq_a1 h) (rq_a2 h) (rq_b0 h) (rq_b1 h) (rq_b2 h) (rq_m0 h) (rq_m1 h) (rq_m2 h) (rq_ne1 h) (rq_ne2 h) (rq_n4 h) (rq_at h) (Int.le_trans (rq_p0 h) (Int.le_trans (tkS_ge T n (s 0)) (tkE_ge T n (s 0)))) (tkE_le (rq_p1 h))
end RDQ
def RdM (E : En) (T : Tp) (n : Int) (s : Rg) (G : Gh) : Prop := (∀ i : Int, 0 ≤ i → i < n → G 61 (Ad E 61) i % 256 = T i) ∧ (G 1 (Ad E 1) 77 = n) ∧ (G 1 (Ad E 1) 83 = tkS T n (s 0)) ∧ (G 1 (Ad E 1) 84 = tkE T n (s 0)) ∧ (G 1 (Ad E 1) 82 = srt (tkK T n (s 0))) ∧ (tkK T n (s 0) ≠ 2 ∨ G 1 (Ad E 1) 85 = tkV T n (s 0)) ∧ (tkK T n (s 0) ≤ 3 ∨ G 1 (Ad E 1) 85 = tkK T n (s 0)) ∧ (tkK T n (s 0) ≠ 1 ∨ G 1 (Ad E 1) 87 = wd T (tkS T n (s 0)) (tkE T n (s 0))) ∧ (tkK T n (s 0) ≠ 1 ∨ G 1 (Ad E 1) 86 = tkE T n (s 0) - tkS T n (s 0)) ∧ (G 1 (Ad E 1) 80 = s 1) ∧ (s 1 = 0 ∨ G 1 (Ad E 1) 81 = s 2) ∧ (s 1 ≠ 0 ∨ G 1 (Ad E 1) 88 = s 3) ∧ (s 1 ≠ 0 ∨ G 1 (Ad E 1) 89 = s 4) ∧ (s 1 ≠ 0 ∨ G 1 (Ad E 1) 90 = s 5) ∧ (s 1 ≠ 0 ∨ G 1 (Ad E 1) 91 = s 6) ∧ (s 1 ≠ 0 ∨ G 1 (Ad E 1) 92 = s 7) ∧ (s 1 ≠ 0 ∨ s 4 ≤ 0 ∨ G 62 (Ad E 62) 0 = wd T (s 20) (s 30)) ∧ (s 1 ≠ 0 ∨ s 4 ≤ 1 ∨ G 62 (Ad E 62) 1 = wd T (s 21) (s 31)) ∧ (s 1 ≠ 0 ∨ s 4 ≤ 2 ∨ G 62 (Ad E 62) 2 = wd T (s 22) (s 32)) ∧ (s 1 ≠ 0 ∨ s 4 ≤ 0 ∨ G 70 (Ad E 70) 0 = s 40) ∧ (s 1 ≠ 0 ∨ s 4 ≤ 1 ∨ G 70 (Ad E 70) 1 = s 41) ∧ (s 1 ≠ 0 ∨ s 4 ≤ 2 ∨ G 70 (Ad E 70) 2 = s 42) ∧ (s 1 ≠ 0 ∨ 0 < s 4 ∨ s 40 = -1) ∧ (s 1 ≠ 0 ∨ 1 < s 4 ∨ s 41 = -1) ∧ (s 1 ≠ 0 ∨ 2 < s 4 ∨ s 42 = -1) ∧ (NmV T s) ∧ (0 ≤ s 0) ∧ (s 0 ≤ n) ∧ (n ≤ 400) ∧ (s 1 ≠ 0 ∨ (0 ≤ s 4 ∧ s 4 ≤ 3))
def RdM0 (E : En) (T : Tp) (n a : Int) (s : Rg) (G : Gh) : Prop := (∀ i : Int, 0 ≤ i → i < n → G 61 (Ad E 61) i % 256 = T i) ∧ (G 1 (Ad E 1) 77 = n) ∧ (G 1 (Ad E 1) 80 = s 1) ∧ (s 1 = 0 ∨ G 1 (Ad E 1) 81 = s 2) ∧ (s 1 ≠ 0 ∨ G 1 (Ad E 1) 88 = s 3) ∧ (s 1 ≠ 0 ∨ G 1 (Ad E 1) 89 = s 4) ∧ (s 1 ≠ 0 ∨ G 1 (Ad E 1) 90 = s 5) ∧ (s 1 ≠ 0 ∨ G 1 (Ad E 1) 91 = s 6) ∧ (s 1 ≠ 0 ∨ G 1 (Ad E 1) 92 = s 7) ∧ (s 1 ≠ 0 ∨ s 4 ≤ 0 ∨ G 62 (Ad E 62) 0 = wd T (s 20) (s 30)) ∧ (s 1 ≠ 0 ∨ s 4 ≤ 1 ∨ G 62 (Ad E 62) 1 = wd T (s 21) (s 31)) ∧ (s 1 ≠ 0 ∨ s 4 ≤ 2 ∨ G 62 (Ad E 62) 2 = wd T (s 22) (s 32)) ∧ (s 1 ≠ 0 ∨ s 4 ≤ 0 ∨ G 70 (Ad E 70) 0 = s 40) ∧ (s 1 ≠ 0 ∨ s 4 ≤ 1 ∨ G 70 (Ad E 70) 1 = s 41) ∧ (s 1 ≠ 0 ∨ s 4 ≤ 2 ∨ G 70 (Ad E 70) 2 = s 42) ∧ (s 1 ≠ 0 ∨ 0 < s 4 ∨ s 40 = -1) ∧ (s 1 ≠ 0 ∨ 1 < s 4 ∨ s 41 = -1) ∧ (s 1 ≠ 0 ∨ 2 < s 4 ∨ s 42 = -1) ∧ (NmV T s) ∧ (n ≤ 400) ∧ (s 1 ≠ 0 ∨ (0 ≤ s 4 ∧ s 4 ≤ 3)) ∧ (G 1 (Ad E 1) 84 = a) ∧ (0 ≤ a) ∧ (a ≤ n)
section RMZ
variable {E : En} {T : Tp} {n a : Int} {s : Rg} {G : Gh}
theorem rn_tape (h : RdM0 E T n a s G) : ∀ i : Int, 0 ≤ i → i < n → G 61 (Ad E 61) i % 256 = T i := h.1
theorem rn_end (h : RdM0 E T n a s G) : G 1 (Ad E 1) 77 = n := h.2.1
theorem rn_bad (h : RdM0 E T n a s G) : G 1 (Ad E 1) 80 = s 1 := h.2.2.1
theorem rn_bat (h : RdM0 E T n a s G) : s 1 = 0 ∨ G 1 (Ad E 1) 81 = s 2 := h.2.2.2.1
theorem rn_nm (h : RdM0 E T n a s G) : s 1 ≠ 0 ∨ G 1 (Ad E 1) 88 = s 3 := h.2.2.2.2.1
theorem rn_nc (h : RdM0 E T n a s G) : s 1 ≠ 0 ∨ G 1 (Ad E 1) 89 = s 4 := h.2.2.2.2.2.1
theorem rn_nd (h : RdM0 E T n a s G) : s 1 ≠ 0 ∨ G 1 (Ad E 1) 90 = s 5 := h.2.2.2.2.2.2.1
theorem rn_ti (h : RdM0 E T n a s G) : s 1 ≠ 0 ∨ G 1 (Ad E 1) 91 = s 6 := h.2.2.2.2.2.2.2.1
theorem rn_to (h : RdM0 E T n a s G) : s 1 ≠ 0 ∨ G 1 (Ad E 1) 92 = s 7 := h.2.2.2.2.2.2.2.2.1
theorem rn_w0 (h : RdM0 E T n a s G) : s 1 ≠ 0 ∨ s 4 ≤ 0 ∨ G 62 (Ad E 62) 0 = wd T (s 20) (s 30) := h.2.2.2.2.2.2.2.2.2.1
theorem rn_w1 (h : RdM0 E T n a s G) : s 1 ≠ 0 ∨ s 4 ≤ 1 ∨ G 62 (Ad E 62) 1 = wd T (s 21) (s 31) := h.2.2.2.2.2.2.2.2.2.2.1
theorem rn_w2 (h : RdM0 E T n a s G) : s 1 ≠ 0 ∨ s 4 ≤ 2 ∨ G 62 (Ad E 62) 2 = wd T (s 22) (s 32) := h.2.2.2.2.2.2.2.2.2.2.2.1
theorem rn_q0 (h : RdM0 E T n a s G) : s 1 ≠ 0 ∨ s 4 ≤ 0 ∨ G 70 (Ad E 70) 0 = s 40 := h.2.2.2.2.2.2.2.2.2.2.2.2.1
theorem rn_q1 (h : RdM0 E T n a s G) : s 1 ≠ 0 ∨ s 4 ≤ 1 ∨ G 70 (Ad E 70) 1 = s 41 := h.2.2.2.2.2.2.2.2.2.2.2.2.2.1
theorem rn_q2 (h : RdM0 E T n a s G) : s 1 ≠ 0 ∨ s 4 ≤ 2 ∨ G 70 (Ad E 70) 2 = s 42 := h.2.2.2.2.2.2.2.2.2.2.2.2.2.2.1
theorem rn_z0 (h : RdM0 E T n a s G) : s 1 ≠ 0 ∨ 0 < s 4 ∨ s 40 = -1 := h.2.2.2.2.2.2.2.2.2.2.2.2.2.2.2.1
theorem rn_z1 (h : RdM0 E T n a s G) : s 1 ≠ 0 ∨ 1 < s 4 ∨ s 41 = -1 := h.2.2.2.2.2.2.2.2.2.2.2.2.2.2.2.2.1
theorem rn_z2 (h : RdM0 E T n a s G) : s 1 ≠ 0 ∨ 2 < s 4 ∨ s 42 = -1 := h.2.2.2.2.2.2.2.2.2.2.2.2.2.2.2.2.2.1
theorem rn_nv (h : RdM0 E T n a s G) : NmV T s := h.2.2.2.2.2.2.2.2.2.2.2.2.2.2.2.2.2.2.1
theorem rn_n4 (h : RdM0 E T n a s G) : n ≤ 400 := h.2.2.2.2.2.2.2.2.2.2.2.2.2.2.2.2.2.2.2.1
theorem rn_c3 (h : RdM0 E T n a s G) : s 1 ≠ 0 ∨ (0 ≤ s 4 ∧ s 4 ≤ 3) := h.2.2.2.2.2.2.2.2.2.2.2.2.2.2.2.2.2.2.2.2.1
theorem rn_beh (h : RdM0 E T n a s G) : G 1 (Ad E 1) 84 = a := h.2.2.2.2.2.2.2.2.2.2.2.2.2.2.2.2.2.2.2.2.2.1
theorem rn_a0 (h : RdM0 E T n a s G) : 0 ≤ a := h.2.2.2.2.2.2.2.2.2.2.2.2.2.2.2.2.2.2.2.2.2.2.1
theorem rn_a1 (h : RdM0 E T n a s G) : a ≤ n := h.2.2.2.2.2.2.2.2.2.2.2.2.2.2.2.2.2.2.2.2.2.2.2
theorem rn_mk (c0 : ∀ i : Int, 0 ≤ i → i < n → G 61 (Ad E 61) i % 256 = T i) (c1 : G 1 (Ad E 1) 77 = n) (c2 : G 1 (Ad E 1) 80 = s 1) (c3 : s 1 = 0 ∨ G 1 (Ad E 1) 81 = s 2) (c4 : s 1 ≠ 0 ∨ G 1 (Ad E 1) 88 = s 3) (c5 : s 1 ≠ 0 ∨ G 1 (Ad E 1) 89 = s 4) (c6 : s 1 ≠ 0 ∨ G 1 (Ad E 1) 90 = s 5) (c7 : s 1 ≠ 0 ∨ G 1 (Ad E 1) 91 = s 6) (c8 : s 1 ≠ 0 ∨ G 1 (Ad E 1) 92 = s 7) (c9 : s 1 ≠ 0 ∨ s 4 ≤ 0 ∨ G 62 (Ad E 62) 0 = wd T (s 20) (s 30)) (c10 : s 1 ≠ 0 ∨ s 4 ≤ 1 ∨ G 62 (Ad E 62) 1 = wd T (s 21) (s 31)) (c11 : s 1 ≠ 0 ∨ s 4 ≤ 2 ∨ G 62 (Ad E 62) 2 = wd T (s 22) (s 32)) (c12 : s 1 ≠ 0 ∨ s 4 ≤ 0 ∨ G 70 (Ad E 70) 0 = s 40) (c13 : s 1 ≠ 0 ∨ s 4 ≤ 1 ∨ G 70 (Ad E 70) 1 = s 41) (c14 : s 1 ≠ 0 ∨ s 4 ≤ 2 ∨ G 70 (Ad E 70) 2 = s 42) (c15 : s 1 ≠ 0 ∨ 0 < s 4 ∨ s 40 = -1) (c16 : s 1 ≠ 0 ∨ 1 < s 4 ∨ s 41 = -1) (c17 : s 1 ≠ 0 ∨ 2 < s 4 ∨ s 42 = -1) (c18 : NmV T s) (c19 : n ≤ 400) (c20 : s 1 ≠ 0 ∨ (0 ≤ s 4 ∧ s 4 ≤ 3)) (c21 : G 1 (Ad E 1) 84 = a) (c22 : 0 ≤ a) (c23 : a ≤ n) : RdM0 E T n a s G := ⟨c0, c1, c2, c3, c4, c5, c6, c7, c8, c9, c10, c11, c12, c13, c14, c15, c16, c17, c18, c19, c20, c21, c22, c23⟩
end RMZ
section RMQ
variable {E : En} {T : Tp} {n : Int} {s s' : Rg} {G : Gh}
theorem rm_tape (h : RdM E T n s G) : ∀ i : Int, 0 ≤ i → i < n → G 61 (Ad E 61) i % 256 = T i := h.1
theorem rm_end (h : RdM E T n s G) : G 1 (Ad E 1) 77 = n := h.2.1
theorem rm_at (h : RdM E T n s G) : G 1 (Ad E 1) 83 = tkS T n (s 0) := h.2.2.1
theorem rm_beh (h : RdM E T n s G) : G 1 (Ad E 1) 84 = tkE T n (s 0) := h.2.2.2.1
theorem rm_sort (h : RdM E T n s G) : G 1 (Ad E 1) 82 = srt (tkK T n (s 0)) := h.2.2.2.2.1
theorem rm_num (h : RdM E T n s G) : tkK T n (s 0) ≠ 2 ∨ G 1 (Ad E 1) 85 = tkV T n (s 0) := h.2.2.2.2.2.1
theorem rm_sgn (h : RdM E T n s G) : tkK T n (s 0) ≤ 3 ∨ G 1 (Ad E 1) 85 = tkK T n (s 0) := h.2.2.2.2.2.2.1
theorem rm_word (h : RdM E T n s G) : tkK T n (s 0) ≠ 1 ∨ G 1 (Ad E 1) 87 = wd T (tkS T n (s 0)) (tkE T n (s 0)) := h.2.2.2.2.2.2.2.1
theorem rm_let (h : RdM E T n s G) : tkK T n (s 0) ≠ 1 ∨ G 1 (Ad E 1) 86 = tkE T n (s 0) - tkS T n (s 0) := h.2.2.2.2.2.2.2.2.1
theorem rm_bad (h : RdM E T n s G) : G 1 (Ad E 1) 80 = s 1 := h.2.2.2.2.2.2.2.2.2.1
theorem rm_bat (h : RdM E T n s G) : s 1 = 0 ∨ G 1 (Ad E 1) 81 = s 2 := h.2.2.2.2.2.2.2.2.2.2.1
theorem rm_nm (h : RdM E T n s G) : s 1 ≠ 0 ∨ G 1 (Ad E 1) 88 = s 3 := h.2.2.2.2.2.2.2.2.2.2.2.1
theorem rm_nc (h : RdM E T n s G) : s 1 ≠ 0 ∨ G 1 (Ad E 1) 89 = s 4 := h.2.2.2.2.2.2.2.2.2.2.2.2.1
theorem rm_nd (h : RdM E T n s G) : s 1 ≠ 0 ∨ G 1 (Ad E 1) 90 = s 5 := h.2.2.2.2.2.2.2.2.2.2.2.2.2.1
theorem rm_ti (h : RdM E T n s G) : s 1 ≠ 0 ∨ G 1 (Ad E 1) 91 = s 6 := h.2.2.2.2.2.2.2.2.2.2.2.2.2.2.1
theorem rm_to (h : RdM E T n s G) : s 1 ≠ 0 ∨ G 1 (Ad E 1) 92 = s 7 := h.2.2.2.2.2.2.2.2.2.2.2.2.2.2.2.1
theorem rm_w0 (h : RdM E T n s G) : s 1 ≠ 0 ∨ s 4 ≤ 0 ∨ G 62 (Ad E 62) 0 = wd T (s 20) (s 30) := h.2.2.2.2.2.2.2.2.2.2.2.2.2.2.2.2.1
theorem rm_w1 (h : RdM E T n s G) : s 1 ≠ 0 ∨ s 4 ≤ 1 ∨ G 62 (Ad E 62) 1 = wd T (s 21) (s 31) := h.2.2.2.2.2.2.2.2.2.2.2.2.2.2.2.2.2.1
theorem rm_w2 (h : RdM E T n s G) : s 1 ≠ 0 ∨ s 4 ≤ 2 ∨ G 62 (Ad E 62) 2 = wd T (s 22) (s 32) := h.2.2.2.2.2.2.2.2.2.2.2.2.2.2.2.2.2.2.1
theorem rm_q0 (h : RdM E T n s G) : s 1 ≠ 0 ∨ s 4 ≤ 0 ∨ G 70 (Ad E 70) 0 = s 40 := h.2.2.2.2.2.2.2.2.2.2.2.2.2.2.2.2.2.2.2.1
theorem rm_q1 (h : RdM E T n s G) : s 1 ≠ 0 ∨ s 4 ≤ 1 ∨ G 70 (Ad E 70) 1 = s 41 := h.2.2.2.2.2.2.2.2.2.2.2.2.2.2.2.2.2.2.2.2.1
theorem rm_q2 (h : RdM E T n s G) : s 1 ≠ 0 ∨ s 4 ≤ 2 ∨ G 70 (Ad E 70) 2 = s 42 := h.2.2.2.2.2.2.2.2.2.2.2.2.2.2.2.2.2.2.2.2.2.1
theorem rm_z0 (h : RdM E T n s G) : s 1 ≠ 0 ∨ 0 < s 4 ∨ s 40 = -1 := h.2.2.2.2.2.2.2.2.2.2.2.2.2.2.2.2.2.2.2.2.2.2.1
theorem rm_z1 (h : RdM E T n s G) : s 1 ≠ 0 ∨ 1 < s 4 ∨ s 41 = -1 := h.2.2.2.2.2.2.2.2.2.2.2.2.2.2.2.2.2.2.2.2.2.2.2.1
theorem rm_z2 (h : RdM E T n s G) : s 1 ≠ 0 ∨ 2 < s 4 ∨ s 42 = -1 := h.2.2.2.2.2.2.2.2.2.2.2.2.2.2.2.2.2.2.2.2.2.2.2.2.1
theorem rm_nv (h : RdM E T n s G) : NmV T s := h.2.2.2.2.2.2.2.2.2.2.2.2.2.2.2.2.2.2.2.2.2.2.2.2.2.1
theorem rm_p0 (h : RdM E T n s G) : 0 ≤ s 0 := h.2.2.2.2.2.2.2.2.2.2.2.2.2.2.2.2.2.2.2.2.2.2.2.2.2.2.1
theorem rm_p1 (h : RdM E T n s G) : s 0 ≤ n := h.2.2.2.2.2.2.2.2.2.2.2.2.2.2.2.2.2.2.2.2.2.2.2.2.2.2.2.1
theorem rm_n4 (h : RdM E T n s G) : n ≤ 400 := h.2.2.2.2.2.2.2.2.2.2.2.2.2.2.2.2.2.2.2.2.2.2.2.2.2.2.2.2.1
theorem rm_c3 (h : RdM E T n s G) : s 1 ≠ 0 ∨ (0 ≤ s 4 ∧ s 4 ≤ 3) := h.2.2.2.2.2.2.2.2.2.2.2.2.2.2.2.2.2.2.2.2.2.2.2.2.2.2.2.2.2
theorem rm_mk (c0 : ∀ i : Int, 0 ≤ i → i < n → G 61 (Ad E 61) i % 256 = T i) (c1 : G 1 (Ad E 1) 77 = n) (c2 : G 1 (Ad E 1) 83 = tkS T n (s 0)) (c3 : G 1 (Ad E 1) 84 = tkE T n (s 0)) (c4 : G 1 (Ad E 1) 82 = srt (tkK T n (s 0))) (c5 : tkK T n (s 0) ≠ 2 ∨ G 1 (Ad E 1) 85 = tkV T n (s 0)) (c6 : tkK T n (s 0) ≤ 3 ∨ G 1 (Ad E 1) 85 = tkK T n (s 0)) (c7 : tkK T n (s 0) ≠ 1 ∨ G 1 (Ad E 1) 87 = wd T (tkS T n (s 0)) (tkE T n (s 0))) (c8 : tkK T n (s 0) ≠ 1 ∨ G 1 (Ad E 1) 86 = tkE T n (s 0) - tkS T n (s 0)) (c9 : G 1 (Ad E 1) 80 = s 1) (c10 : s 1 = 0 ∨ G 1 (Ad E 1) 81 = s 2) (c11 : s 1 ≠ 0 ∨ G 1 (Ad E 1) 88 = s 3) (c12 : s 1 ≠ 0 ∨ G 1 (Ad E 1) 89 = s 4) (c13 : s 1 ≠ 0 ∨ G 1 (Ad E 1) 90 = s 5) (c14 : s 1 ≠ 0 ∨ G 1 (Ad E 1) 91 = s 6) (c15 : s 1 ≠ 0 ∨ G 1 (Ad E 1) 92 = s 7) (c16 : s 1 ≠ 0 ∨ s 4 ≤ 0 ∨ G 62 (Ad E 62) 0 = wd T (s 20) (s 30)) (c17 : s 1 ≠ 0 ∨ s 4 ≤ 1 ∨ G 62 (Ad E 62) 1 = wd T (s 21) (s 31)) (c18 : s 1 ≠ 0 ∨ s 4 ≤ 2 ∨ G 62 (Ad E 62) 2 = wd T (s 22) (s 32)) (c19 : s 1 ≠ 0 ∨ s 4 ≤ 0 ∨ G 70 (Ad E 70) 0 = s 40) (c20 : s 1 ≠ 0 ∨ s 4 ≤ 1 ∨ G 70 (Ad E 70) 1 = s 41) (c21 : s 1 ≠ 0 ∨ s 4 ≤ 2 ∨ G 70 (Ad E 70) 2 = s 42) (c22 : s 1 ≠ 0 ∨ 0 < s 4 ∨ s 40 = -1) (c23 : s 1 ≠ 0 ∨ 1 < s 4 ∨ s 41 = -1) (c24 : s 1 ≠ 0 ∨ 2 < s 4 ∨ s 42 = -1) (c25 : NmV T s) (c26 : 0 ≤ s 0) (c27 : s 0 ≤ n) (c28 : n ≤ 400) (c29 : s 1 ≠ 0 ∨ (0 ≤ s 4 ∧ s 4 ≤ 3)) : RdM E T n s G := ⟨c0, c1, c2, c3, c4, c5, c6, c7, c8, c9, c10, c11, c12, c13, c14, c15, c16, c17, c18, c19, c20, c21, c22, c23, c24, c25, c26, c27, c28, c29⟩
theorem rn_of (h : RdM E T n s G) : RdM0 E T n (tkE T n (s 0)) s G := rn_mk (rm_tape h) (rm_end h) (rm_bad h) (rm_bat h) (rm_nm h) (rm_nc h) (rm_nd h) (rm_ti h) (rm_to h) (rm_w0 h) (rm_w1 h) (rm_w2 h) (rm_q0 h) (rm_q1 h) (rm_q2 h) (rm_z0 h) (rm_z1 h) (rm_z2 h) (rm_nv h) (rm_n4 h) (rm_c3 h) (rm_beh h) (Int.le_trans (rm_p0 h) (Int.le_trans (tkS_ge T n (s 0)) (tkE_ge T n (s 0)))) (tkE_le (rm_p1 h))
theorem rm_cast (h : RdM E T n s G) (e : s = s') : RdM E T n s' G := e ▸ h
theorem rm_wx {i x : Int} (h : RdM E T n s G) (ex : x = G 62 (Ad E 62) i) (i0 : 0 ≤ i) (i2 : i ≤ 2) : s 1 ≠ 0 ∨ s 4 ≤ i ∨ x = wd T (n3 s 20 i) (n3 s 30 i) := by
  rw [ex]
  rcases (by omega : i = 0 ∨ i = 1 ∨ i = 2) with w | w | w <;> subst w
  · exact rm_w0 h
  · exact rm_w1 h
  · exact rm_w2 h
theorem rm_qx {i x : Int} (h : RdM E T n s G) (ex : x = G 70 (Ad E 70) i) (i0 : 0 ≤ i) (i2 : i ≤ 2) : s 1 ≠ 0 ∨ s 4 ≤ i ∨ x = n3 s 40 i := by
  rw [ex]
  rcases (by omega : i = 0 ∨ i = 1 ∨ i = 2) with w | w | w <;> subst w
  · exact rm_q0 h
  · exact rm_q1 h
  · exact rm_q2 h
end RMQ
theorem smw_or {E : En} {T : Tp} {n : Int} {s : Rg} {G : Gh} (h : RdM E T n s G) (i : Int) (i0 : 0 ≤ i) (i2 : i ≤ 2) (i4 : s 1 ≠ 0 ∨ i < s 4) (hk : s 1 ≠ 0 ∨ (tkK T n (s 0) = 1 ∧ tkE T n (s 0) - tkS T n (s 0) ≤ 8)) : s 1 ≠ 0 ∨ (wd T (n3 s 20 i) (n3 s 30 i) = wd T (tkS T n (s 0)) (tkE T n (s 0)) ∧ smr T (tkS T n (s 0)) (tkE T n (s 0)) (n3 s 20 i) (n3 s 30 i) = 1) ∨ (wd T (n3 s 20 i) (n3 s 30 i) ≠ wd T (tkS T n (s 0)) (tkE T n (s 0)) ∧ smr T (tkS T n (s 0)) (tkE T n (s 0)) (n3 s 20 i) (n3 s 30 i) ≠ 1) := by
  rcases i4 with q | i4
  · exact Or.inl q
  rcases hk with q | ⟨k1, l8⟩
  · exact Or.inl q
  right
  obtain ⟨q1, q2, q3⟩ := rm_nv h i i0 i4 i2
  have iff := wd_iff (T := T) (U := T) (a := tkS T n (s 0)) (b := tkE T n (s 0)) (c := n3 s 20 i) (d := n3 s 30 i) (tkE_ge T n (s 0)) (by first | decide | omega) (by first | decide | omega) (fun i x y => tkK_let k1 x y) q3
  have ifs := smr_iff (T := T) (a := tkS T n (s 0)) (b := tkE T n (s 0)) (n3 s 20 i) (n3 s 30 i)
  by_cases e : wd T (n3 s 20 i) (n3 s 30 i) = wd T (tkS T n (s 0)) (tkE T n (s 0))
  · exact Or.inl ⟨e, ifs.mpr (iff.mp e.symm)⟩
  · exact Or.inr ⟨e, fun w => e (iff.mpr (ifs.mp w)).symm⟩
