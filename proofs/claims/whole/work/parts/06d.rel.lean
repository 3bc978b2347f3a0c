/-! the relation between the two sides -/
def zRc (I J : zxI) (G W : Nat) : Prop := I 10 0 = nI G ∧ J 0 5 = nI G ∧ (G = 0 ∨ 2 ≤ G) ∧ G ≤ 6 ∧ I 10 1 = nI W ∧ J 0 6 = nI W ∧ W ≤ 4 ∧ (0 < G → 0 < W) ∧ J 0 7 = I 0 8 ∧ J 0 1 = I 0 9 ∧ J 0 0 = I 0 10 ∧ J 0 8 = I (zaO 0) 1 ∧ (∃ d, d < 64 ∧ I (zaO 0) 1 = nI d) ∧ J 0 9 = I 10 5 ∧ (∃ d, d < 32 ∧ I 10 5 = nI d) ∧ J 4 = I 11 ∧ J 5 = I 12 ∧ J 6 = I (zaF 0) ∧ J 7 = I 13 ∧ zF (I (zaF 0)) ∧ (∀ w, w < 4 → ∃ v, v < 10 ∧ I 11 w = nI v) ∧ (∀ g, g < 6 → zK3 (I 12 g)) ∧ (∀ g, g < 6 → ∃ v, v < 10 ∧ I 13 g = nI v) ∧ J 0 25 = I 31 0 ∧ (∃ c, c ≤ 8 ∧ I 31 0 = nI c) ∧ J 13 = I 32 ∧ J 14 = I 33 ∧ J 15 = I 34 ∧ (∀ q, q < 8 → ∃ g, g < 6 ∧ I 32 q = nI g)
/-- a sheet on both sides: lost, or of the same lane, length, cells -/
def zSh (I J : zxI) (k : Nat) : Prop := (I (zsO k) 0 = 0 ∧ J 1 k = -9) ∨ (I (zsO k) 0 = 1 ∧ J 1 k = I (zsO k) 1 ∧ (∃ t, t < 3 ∧ I (zsO k) 1 = nI t) ∧ ∃ n, n ≤ 60 ∧ I (zsO k) 3 = nI n ∧ J 2 k = nI n ∧ ∀ i, i < 60 → J 3 (60 * k + i) = I (zsC k) i)
def zRf (I J : zxI) : Prop := ∀ k, k < 4 → zSh I J k
def zR (I J : zxI) : Prop := (∃ G W, zRc I J G W) ∧ zRf I J
theorem zRf_fr {I J I' J' : zxI} (h : zRf I J) (hX : ∀ k, k < 4 → I' (zsO k) = I (zsO k) ∧ I' (zsC k) = I (zsC k)) (h1 : J' 1 = J 1) (h2 : J' 2 = J 2) (h3 : J' 3 = J 3) : zRf I' J' := by
  intro k hk
  have := h k hk
  unfold zSh at *
  rw [(hX k hk).1, (hX k hk).2, h1, h2, h3]
  exact this
theorem zRc_fr {I J I' J' : zxI} {G W : Nat} (h : zRc I J G W) (x0 : I' 0 = I 0) (x10 : I' 10 = I 10) (x11 : I' 11 = I 11) (x12 : I' 12 = I 12) (x13 : I' 13 = I 13) (xO : I' (zaO 0) = I (zaO 0)) (xF : I' (zaF 0) = I (zaF 0)) (x31 : I' 31 = I 31) (x32 : I' 32 = I 32) (x33 : I' 33 = I 33) (x34 : I' 34 = I 34)
    (m0 : J' 0 0 = J 0 0) (m1 : J' 0 1 = J 0 1) (m5 : J' 0 5 = J 0 5) (m6 : J' 0 6 = J 0 6) (m7 : J' 0 7 = J 0 7) (m8 : J' 0 8 = J 0 8) (m9 : J' 0 9 = J 0 9) (m25 : J' 0 25 = J 0 25) (y4 : J' 4 = J 4) (y5 : J' 5 = J 5) (y6 : J' 6 = J 6) (y7 : J' 7 = J 7) (y13 : J' 13 = J 13) (y14 : J' 14 = J 14) (y15 : J' 15 = J 15) : zRc I' J' G W := by
  unfold zRc at *
  rw [x0, x10, x11, x12, x13, xO, xF, x31, x32, x33, x34, m0, m1, m5, m6, m7, m8, m9, m25, y4, y5, y6, y7, y13, y14, y15]
  exact h
theorem zR_fault {I J : zxI} (h : zR I J) (v : Int32) : zR (zxU I 0 10 v) (zxU J 0 0 v) := by
  obtain ⟨⟨G, W, c1, c2, c3, c4, c5, c6, c7, c8, c9, c10, c11, c12, c13, c14, c15, c16, c17, c18, c19, c20, c21, c22, c23, c24, c25, c26, c27, c28, c29⟩, hf⟩ := h
  refine ⟨⟨G, W, ?_⟩, ?_⟩
  · unfold zRc
    simp (disch := first | decide | (simp only [zaO, zaF, zsO, zsC]; omega)) only [zxU_q, zxU_k, zxU_s, zSR_n, zSR_s]
    exact ⟨c1, c2, c3, c4, c5, c6, c7, c8, c9, c10, trivial, c12, c13, c14, c15, c16, c17, c18, c19, c20, c21, c22, c23, c24, c25, c26, c27, c28, c29⟩
  · refine zRf_fr hf (fun k hk => ⟨?_, ?_⟩) ?_ ?_ ?_ <;> simp (disch := first | decide | (simp only [zaO, zaF, zsO, zsC]; omega)) only [zxU_q, zSR_n]
theorem zR_trail {I J : zxI} (h : zR I J) (v : Int32) : zR (zxU I 0 9 v) (zxU J 0 1 v) := by
  obtain ⟨⟨G, W, c1, c2, c3, c4, c5, c6, c7, c8, c9, c10, c11, c12, c13, c14, c15, c16, c17, c18, c19, c20, c21, c22, c23, c24, c25, c26, c27, c28, c29⟩, hf⟩ := h
  refine ⟨⟨G, W, ?_⟩, ?_⟩
  · unfold zRc
    simp (disch := first | decide | (simp only [zaO, zaF, zsO, zsC]; omega)) only [zxU_q, zxU_k, zxU_s, zSR_n, zSR_s]
    exact ⟨c1, c2, c3, c4, c5, c6, c7, c8, c9, trivial, c11, c12, c13, c14, c15, c16, c17, c18, c19, c20, c21, c22, c23, c24, c25, c26, c27, c28, c29⟩
  · refine zRf_fr hf (fun k hk => ⟨?_, ?_⟩) ?_ ?_ ?_ <;> simp (disch := first | decide | (simp only [zaO, zaF, zsO, zsC]; omega)) only [zxU_q, zSR_n]
theorem zR_breaths {I J : zxI} (h : zR I J) (v : Int32) : zR (zxU I 0 8 v) (zxU J 0 7 v) := by
  obtain ⟨⟨G, W, c1, c2, c3, c4, c5, c6, c7, c8, c9, c10, c11, c12, c13, c14, c15, c16, c17, c18, c19, c20, c21, c22, c23, c24, c25, c26, c27, c28, c29⟩, hf⟩ := h
  refine ⟨⟨G, W, ?_⟩, ?_⟩
  · unfold zRc
    simp (disch := first | decide | (simp only [zaO, zaF, zsO, zsC]; omega)) only [zxU_q, zxU_k, zxU_s, zSR_n, zSR_s]
    exact ⟨c1, c2, c3, c4, c5, c6, c7, c8, trivial, c10, c11, c12, c13, c14, c15, c16, c17, c18, c19, c20, c21, c22, c23, c24, c25, c26, c27, c28, c29⟩
  · refine zRf_fr hf (fun k hk => ⟨?_, ?_⟩) ?_ ?_ ?_ <;> simp (disch := first | decide | (simp only [zaO, zaF, zsO, zsC]; omega)) only [zxU_q, zSR_n]
theorem zR_count {I J : zxI} (h : zR I J) {c : Nat} (hc : c ≤ 8) : zR (zxU I 31 0 (nI c)) (zxU J 0 25 (nI c)) := by
  obtain ⟨⟨G, W, c1, c2, c3, c4, c5, c6, c7, c8, c9, c10, c11, c12, c13, c14, c15, c16, c17, c18, c19, c20, c21, c22, c23, c24, c25, c26, c27, c28, c29⟩, hf⟩ := h
  refine ⟨⟨G, W, ?_⟩, ?_⟩
  · unfold zRc
    simp (disch := first | decide | (simp only [zaO, zaF, zsO, zsC]; omega)) only [zxU_q, zxU_k, zxU_s, zSR_n, zSR_s]
    exact ⟨c1, c2, c3, c4, c5, c6, c7, c8, c9, c10, c11, c12, c13, c14, c15, c16, c17, c18, c19, c20, c21, c22, c23, trivial, ⟨c, hc, rfl⟩, c26, c27, c28, c29⟩
  · refine zRf_fr hf (fun k hk => ⟨?_, ?_⟩) ?_ ?_ ?_ <;> simp (disch := first | decide | (simp only [zaO, zaF, zsO, zsC]; omega)) only [zxU_q, zSR_n]
theorem zR_doors {I J : zxI} (h : zR I J) {d : Nat} (hd : d < 32) : zR (zxU I 10 5 (nI d)) (zxU J 0 9 (nI d)) := by
  obtain ⟨⟨G, W, c1, c2, c3, c4, c5, c6, c7, c8, c9, c10, c11, c12, c13, c14, c15, c16, c17, c18, c19, c20, c21, c22, c23, c24, c25, c26, c27, c28, c29⟩, hf⟩ := h
  refine ⟨⟨G, W, ?_⟩, ?_⟩
  · unfold zRc
    simp (disch := first | decide | (simp only [zaO, zaF, zsO, zsC]; omega)) only [zxU_q, zxU_k, zxU_s, zSR_n, zSR_s]
    exact ⟨c1, c2, c3, c4, c5, c6, c7, c8, c9, c10, c11, c12, c13, trivial, ⟨d, hd, rfl⟩, c16, c17, c18, c19, c20, c21, c22, c23, c24, c25, c26, c27, c28, c29⟩
  · refine zRf_fr hf (fun k hk => ⟨?_, ?_⟩) ?_ ?_ ?_ <;> simp (disch := first | decide | (simp only [zaO, zaF, zsO, zsC]; omega)) only [zxU_q, zSR_n]
theorem zR_foul {I J : zxI} (h : zR I J) {g v : Nat} (hv : v < 41) : zR (zSR I (zaF 0) (upd (I (zaF 0)) g (nI v))) (zSR J 6 (upd (J 6) g (nI v))) := by
  obtain ⟨⟨G, W, c1, c2, c3, c4, c5, c6, c7, c8, c9, c10, c11, c12, c13, c14, c15, c16, c17, c18, c19, c20, c21, c22, c23, c24, c25, c26, c27, c28, c29⟩, hf⟩ := h
  refine ⟨⟨G, W, ?_⟩, ?_⟩
  · unfold zRc
    simp (disch := first | decide | (simp only [zaO, zaF, zsO, zsC]; omega)) only [zxU_q, zxU_k, zxU_s, zSR_n, zSR_s]
    exact ⟨c1, c2, c3, c4, c5, c6, c7, c8, c9, c10, c11, c12, c13, c14, c15, c16, c17, by rw [c18], c19, zF_up c20 hv, c21, c22, c23, c24, c25, c26, c27, c28, c29⟩
  · refine zRf_fr hf (fun k hk => ⟨?_, ?_⟩) ?_ ?_ ?_ <;> simp (disch := first | decide | (simp only [zaO, zaF, zsO, zsC]; omega)) only [zxU_q, zSR_n]
theorem zR_strong {I J : zxI} (h : zR I J) {g v : Nat} (hv : v < 10) : zR (zSR I 13 (upd (I 13) g (nI v))) (zSR J 7 (upd (J 7) g (nI v))) := by
  obtain ⟨⟨G, W, c1, c2, c3, c4, c5, c6, c7, c8, c9, c10, c11, c12, c13, c14, c15, c16, c17, c18, c19, c20, c21, c22, c23, c24, c25, c26, c27, c28, c29⟩, hf⟩ := h
  refine ⟨⟨G, W, ?_⟩, ?_⟩
  · unfold zRc
    simp (disch := first | decide | (simp only [zaO, zaF, zsO, zsC]; omega)) only [zxU_q, zxU_k, zxU_s, zSR_n, zSR_s]
    exact ⟨c1, c2, c3, c4, c5, c6, c7, c8, c9, c10, c11, c12, c13, c14, c15, c16, c17, c18, by rw [c19], c20, c21, c22, fun j hj => by
      by_cases e : j = g
      · subst e
        exact ⟨v, hv, upd_s⟩
      · rw [upd_n e]
        exact c23 j hj, c24, c25, c26, c27, c28, c29⟩
  · refine zRf_fr hf (fun k hk => ⟨?_, ?_⟩) ?_ ?_ ?_ <;> simp (disch := first | decide | (simp only [zaO, zaF, zsO, zsC]; omega)) only [zxU_q, zSR_n]
theorem zR_air {I J : zxI} (h : zR I J) {f : Nat → Int32} {d : Nat} (hF : zF f) (hd : d < 64) : zR (zxU (zSR I (zaF 0) f) (zaO 0) 1 (nI d)) (zxU (zSR J 6 f) 0 8 (nI d)) := by
  obtain ⟨⟨G, W, c1, c2, c3, c4, c5, c6, c7, c8, c9, c10, c11, c12, c13, c14, c15, c16, c17, c18, c19, c20, c21, c22, c23, c24, c25, c26, c27, c28, c29⟩, hf⟩ := h
  refine ⟨⟨G, W, ?_⟩, ?_⟩
  · unfold zRc
    simp (disch := first | decide | (simp only [zaO, zaF, zsO, zsC]; omega)) only [zxU_q, zxU_k, zxU_s, zSR_n, zSR_s]
    exact ⟨c1, c2, c3, c4, c5, c6, c7, c8, c9, c10, c11, trivial, ⟨d, hd, rfl⟩, c14, c15, c16, c17, trivial, c19, hF, c21, c22, c23, c24, c25, c26, c27, c28, c29⟩
  · refine zRf_fr hf (fun k hk => ⟨?_, ?_⟩) ?_ ?_ ?_ <;> simp (disch := first | decide | (simp only [zaO, zaF, zsO, zsC]; omega)) only [zxU_q, zSR_n]
theorem zR_down {I J : zxI} (h : zR I J) {d : Nat} (hd : d < 64) : zR (zxU I (zaO 0) 1 (nI d)) (zxU J 0 8 (nI d)) := by
  obtain ⟨⟨G, W, c1, c2, c3, c4, c5, c6, c7, c8, c9, c10, c11, c12, c13, c14, c15, c16, c17, c18, c19, c20, c21, c22, c23, c24, c25, c26, c27, c28, c29⟩, hf⟩ := h
  refine ⟨⟨G, W, ?_⟩, ?_⟩
  · unfold zRc
    simp (disch := first | decide | (simp only [zaO, zaF, zsO, zsC]; omega)) only [zxU_q, zxU_k, zxU_s, zSR_n, zSR_s]
    exact ⟨c1, c2, c3, c4, c5, c6, c7, c8, c9, c10, c11, trivial, ⟨d, hd, rfl⟩, c14, c15, c16, c17, c18, c19, c20, c21, c22, c23, c24, c25, c26, c27, c28, c29⟩
  · refine zRf_fr hf (fun k hk => ⟨?_, ?_⟩) ?_ ?_ ?_ <;> simp (disch := first | decide | (simp only [zaO, zaF, zsO, zsC]; omega)) only [zxU_q, zSR_n]
theorem zR_reading {I J : zxI} (h : zR I J) {c g : Nat} {x2 x3 : Int32} (hc : c < 8) (hg : g < 6) : zR (zxU (zSR (zSR (zSR I 32 (upd (I 32) c (nI g))) 33 (upd (I 33) c x2)) 34 (upd (I 34) c x3)) 31 0 (nI (c + 1))) (zxU (zSR (zSR (zSR J 13 (upd (J 13) c (nI g))) 14 (upd (J 14) c x2)) 15 (upd (J 15) c x3)) 0 25 (nI (c + 1))) := by
  obtain ⟨⟨G, W, c1, c2, c3, c4, c5, c6, c7, c8, c9, c10, c11, c12, c13, c14, c15, c16, c17, c18, c19, c20, c21, c22, c23, c24, c25, c26, c27, c28, c29⟩, hf⟩ := h
  refine ⟨⟨G, W, ?_⟩, ?_⟩
  · unfold zRc
    simp (disch := first | decide | (simp only [zaO, zaF, zsO, zsC]; omega)) only [zxU_q, zxU_k, zxU_s, zSR_n, zSR_s]
    exact ⟨c1, c2, c3, c4, c5, c6, c7, c8, c9, c10, c11, c12, c13, c14, c15, c16, c17, c18, c19, c20, c21, c22, c23, trivial, ⟨c + 1, hc, rfl⟩, by rw [c26], by rw [c27], by rw [c28], fun q hq => by
      by_cases e : q = c
      · subst e
        exact ⟨g, hg, upd_s⟩
      · rw [upd_n e]
        exact c29 q hq⟩
  · refine zRf_fr hf (fun k hk => ⟨?_, ?_⟩) ?_ ?_ ?_ <;> simp (disch := first | decide | (simp only [zaO, zaF, zsO, zsC]; omega)) only [zxU_q, zSR_n]
