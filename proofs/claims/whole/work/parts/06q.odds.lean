/-! odds -/
def zI00 : zxI := fun _ _ => 0
theorem zcd_L (I : zxI) : ∀ (n : Nat) (a b v : Int32), fX6_commonDivisor_L2 n a b v I = (fX6_commonDivisor_L2 n a b v zI00).map (fun q => (q.1, I)) := by
  intro n
  induction n with
  | zero => intro a b v; rfl
  | succ n ih =>
    intro a b v
    rw [fX6_commonDivisor_L2, fX6_commonDivisor_L2]
    by_cases c : v ≤ 1
    · rw [if_pos c, if_pos c]; rfl
    · rw [if_neg c, if_neg c]
      by_cases c2 : ¬ v = 0
      · rw [if_pos c2, if_pos c2]
        by_cases c3 : a - a / v * v = 0
        · rw [if_pos c3, if_pos c3]
          by_cases c4 : b - b / v * v = 0
          · rw [if_pos c4, if_pos c4]; rfl
          · rw [if_neg c4, if_neg c4]; exact ih _ _ _
        · rw [if_neg c3, if_neg c3]; exact ih _ _ _
      · rw [if_neg c2, if_neg c2]; rfl
theorem zcd_more (I : zxI) : ∀ (n k : Nat) (a b v r : Int32), fX6_commonDivisor_L2 n a b v I = some (r, I) → fX6_commonDivisor_L2 (n + k) a b v I = some (r, I) := by
  intro n
  induction n with
  | zero => intro k a b v r h; cases h
  | succ n ih =>
    intro k a b v r h
    rw [show n + 1 + k = (n + k) + 1 by omega, fX6_commonDivisor_L2]
    rw [fX6_commonDivisor_L2] at h
    by_cases c : v ≤ 1
    · rw [if_pos c] at h ⊢; exact h
    · rw [if_neg c] at h ⊢
      by_cases c2 : ¬ v = 0
      · rw [if_pos c2] at h ⊢
        by_cases c3 : a - a / v * v = 0
        · rw [if_pos c3] at h ⊢
          by_cases c4 : b - b / v * v = 0
          · rw [if_pos c4] at h ⊢; exact h
          · rw [if_neg c4] at h ⊢; exact ih k _ _ _ _ h
        · rw [if_neg c3] at h ⊢; exact ih k _ _ _ _ h
      · rw [if_neg c2] at h; cases h
theorem zlt_L (I : zxI) : ∀ (n : Nat) (a b : Int64) (x : Int32) (v w : Int64), fX7_inLeastTerms_L6 n a b x v w I = (fX7_inLeastTerms_L6 n a b x v w zI00).map (fun q => (q.1, I)) := by
  intro n
  induction n with
  | zero => intro a b x v w; rfl
  | succ n ih =>
    intro a b x v w
    rw [fX7_inLeastTerms_L6, fX7_inLeastTerms_L6]
    by_cases c : lg_cmp w 0 = 0
    · rw [if_pos c, if_pos c]
      by_cases c2 : x = 0
      · rw [if_pos c2, if_pos c2]
        by_cases c3 : ¬ v = 0
        · rw [if_pos c3, if_pos c3]; rfl
        · rw [if_neg c3, if_neg c3]; rfl
      · rw [if_neg c2, if_neg c2]
        by_cases c3 : ¬ v = 0
        · rw [if_pos c3, if_pos c3]; rfl
        · rw [if_neg c3, if_neg c3]; rfl
    · rw [if_neg c, if_neg c]
      by_cases c3 : ¬ w = 0
      · rw [if_pos c3, if_pos c3]; exact ih _ _ _ _ _
      · rw [if_neg c3, if_neg c3]; rfl
theorem zlt_more (I : zxI) : ∀ (n k : Nat) (a b : Int64) (x : Int32) (v w r : Int64), fX7_inLeastTerms_L6 n a b x v w I = some (r, I) → fX7_inLeastTerms_L6 (n + k) a b x v w I = some (r, I) := by
  intro n
  induction n with
  | zero => intro k a b x v w r h; cases h
  | succ n ih =>
    intro k a b x v w r h
    rw [show n + 1 + k = (n + k) + 1 by omega, fX7_inLeastTerms_L6]
    rw [fX7_inLeastTerms_L6] at h
    by_cases c : lg_cmp w 0 = 0
    · rw [if_pos c] at h ⊢; exact h
    · rw [if_neg c] at h ⊢
      by_cases c3 : ¬ w = 0
      · rw [if_pos c3] at h ⊢; exact ih k _ _ _ _ _ _ h
      · rw [if_neg c3] at h; cases h
def zodX (c N x : Nat) : Option Int64 := ((fX6_commonDivisor_L2 25 (nI c) (nI N) (nI N) zI00).map Prod.fst).bind (fun r => if ¬ r = 0 then some (if nI x = 0 then (nI c / r).toInt64 else (nI N / r).toInt64) else none)
def zodM (c N x : Nat) : Option Int64 := (fX7_inLeastTerms_L6 10 (nI c).toInt64 (nI N).toInt64 (nI x) (nI c).toInt64 (nI N).toInt64 zI00).map Prod.fst
theorem zod_eq : ∀ c, c < 25 → ∀ N, N < 25 → 0 < N → ∀ x, x < 2 → (zodX c N x).isSome = true ∧ zodX c N x = zodM c N x := by decide +kernel
theorem zod_fin {c N x : Nat} (hc : c < 25) (hN : N < 25) (h0 : 0 < N) (hx : x < 2) (T U : zxI) : ∃ r : Int64, zxB (fX6_commonDivisor (nI c) (nI N) T) (fun r_6 I_6 => if nI x = 0 then (if ¬ r_6 = 0 then some ((nI c / r_6).toInt64, I_6) else none) else (if ¬ r_6 = 0 then some ((nI N / r_6).toInt64, I_6) else none)) = some (r, T) ∧ fX7_inLeastTerms (nI c).toInt64 (nI N).toInt64 (nI x) U = some (r, U) := by
  obtain ⟨h1, h2⟩ := zod_eq c hc N hN h0 x hx
  unfold fX6_commonDivisor fX7_inLeastTerms
  unfold zodX zodM at h2
  unfold zodX at h1
  cases e : fX6_commonDivisor_L2 25 (nI c) (nI N) (nI N) zI00 with
  | none => rw [e] at h1; cases h1
  | some q =>
    rw [e] at h1 h2
    have eX : fX6_commonDivisor_L2 25 (nI c) (nI N) (nI N) T = some (q.1, T) := by rw [zcd_L, e]; rfl
    have eX2 := zcd_more T 25 975 _ _ _ _ eX
    have h2' : (if ¬ q.1 = 0 then some (if nI x = 0 then (nI c / q.1).toInt64 else (nI N / q.1).toInt64) else none) = (fX7_inLeastTerms_L6 10 (nI c).toInt64 (nI N).toInt64 (nI x) (nI c).toInt64 (nI N).toInt64 zI00).map Prod.fst := h2
    have h1' : (if ¬ q.1 = 0 then some (if nI x = 0 then (nI c / q.1).toInt64 else (nI N / q.1).toInt64) else none).isSome = true := h1
    rw [show (1000 : Nat) = 25 + 975 from rfl, eX2, zxB_s]
    by_cases n0 : ¬ q.1 = 0
    · rw [if_pos n0] at h2' h1'
      cases e2 : fX7_inLeastTerms_L6 10 (nI c).toInt64 (nI N).toInt64 (nI x) (nI c).toInt64 (nI N).toInt64 zI00 with
      | none => rw [e2] at h2'; cases h2'
      | some p =>
        rw [e2] at h2'
        have e3 : (if nI x = 0 then (nI c / q.1).toInt64 else (nI N / q.1).toInt64) = p.1 := Option.some.inj h2'
        have eM : fX7_inLeastTerms_L6 10 (nI c).toInt64 (nI N).toInt64 (nI x) (nI c).toInt64 (nI N).toInt64 U = some (p.1, U) := by rw [zlt_L, e2]; rfl
        have eM2 := zlt_more U 10 990 _ _ _ _ _ _ eM
        refine ⟨p.1, ?_, eM2⟩
        by_cases n1 : nI x = 0
        · rw [if_pos n1] at e3 ⊢
          rw [if_pos n0, e3]
        · rw [if_neg n1] at e3 ⊢
          rw [if_pos n0, e3]
    · rw [if_neg n0] at h1'
      cases h1'
theorem zd_b01 : ∀ d, d < 64 → ∀ g, g < 6 → ((nI d >>> (nI g &&& 31)) &&& 1) = 0 ∨ ((nI d >>> (nI g &&& 31)) &&& 1) = 1 := by decide +kernel
theorem zod_S {I J T0 U0 : zxI} {G W g w y : Nat} (hc : zRc I J G W) (hX : zFX I T0) (hM : zFM J U0) (h9 : U0 0 9 = J 0 9) (hg : g < G) (hw : w < W) (hy : y < 6) : ∃ T b U1 s U U', b < 2 ∧ fX6_airBehind (nI g) (nI w) T0 = some T ∧ fX0_isDown 1 (nI y) T = some (nI b, T) ∧ fX7_keep U0 = some U1 ∧ U1 0 6 = nI W ∧ fX7_breathe (nI g) (nI w) U1 = some (s, U) ∧ fX7_putBack U = some U' ∧ ((U 0 8 >>> (nI y &&& 31)) &&& 1) = nI b ∧ zFX I T ∧ zFM J U' ∧ U' 0 9 = J 0 9 := by
  obtain ⟨T, U1, U, s, d, e1, e2, e3, e4, hT, h9'⟩ := zX_ab hc hX hM h9 hg hw
  obtain ⟨U', y1, y2, y3, y4⟩ := zT_nx hc hT h9'
  have e8 : U 0 8 = nI d := hT.dm
  have e16 : T (zaO 1) 1 = nI d := hT.dx
  rcases zd_b01 d hT.d6 y hy with z | z
  · refine ⟨T, 0, U1, s, U, U', by omega, e1, ?_, e2, e4, e3, y1, by rw [e8, z]; rfl, y2, y3, y4⟩
    unfold fX0_isDown
    rw [e16, z, if_neg (by decide)]
    rfl
  · refine ⟨T, 1, U1, s, U, U', by omega, e1, ?_, e2, e4, e3, y1, by rw [e8, z]; rfl, y2, y3, y4⟩
    unfold fX0_isDown
    rw [e16, z, if_pos (by decide)]
    rfl
theorem zod_end {I J T U : zxI} {G W c x y : Nat} (h : zR I J) (hc : zRc I J G W) (hG : 0 < G) (hcc : c ≤ W * G) (hx : x < 2) (hX : zFX I T) (hM : zFM J U) (h9 : U 0 9 = J 0 9) (F f' : Nat) : zP (fX6_odds_L26 (F + 1) (nI y) (nI x) (nI c) (nI G) T) (fX7_odds_L26 (f' + 1) (nI y) (nI x) (nI c) (nI (W * G)) U) := by
  have t10 : T 10 0 = nI G := by rw [hX 10 (by omega) (by omega)]; exact hc.1
  have t11 : T 10 1 = nI W := by rw [hX 10 (by omega) (by omega)]; exact hc.2.2.2.2.1
  have u5 : U 0 5 = nI G := by rw [hM.2 5 (by omega)]; exact hc.2.1
  have u6 : U 0 6 = nI W := by rw [hM.2 6 (by omega)]; exact hc.2.2.2.2.2.1
  have h6 : G ≤ 6 := hc.2.2.2.1
  have h4 : W ≤ 4 := hc.2.2.2.2.2.2.1
  have hW : 0 < W := hc.2.2.2.2.2.2.2.1 hG
  have b24 : W * G ≤ 24 := Nat.mul_le_mul h4 h6
  have b0 : 0 < W * G := Nat.mul_pos hW hG
  have t : nI G ≤ nI G := nI_le (Nat.le_refl _) (by omega)
  have t2 : nI (W * G) ≤ nI (W * G) := nI_le (Nat.le_refl _) (by omega)
  obtain ⟨r, e1, e2⟩ := zod_fin (c := c) (N := W * G) (x := x) (by omega) (by omega) b0 hx T U
  rw [fX6_odds_L26, fX7_odds_L26, t10, t11, u5, u6, pk_mul, Nat.mul_comm G W, if_pos t, if_pos t2, e1, e2, zxB_s]
  exact zP_ok (zR_nx h hX hM h9)
theorem zod_L {I J : zxI} {G W x y : Nat} (h : zR I J) (hc : zRc I J G W) (hx : x < 2) (hy : y < 6) : ∀ (m g w F1 F2 f' : Nat) (T U : zxI) (c : Nat), g < G → w < W → W * g + w + m = W * G → G ≤ g + F1 → W < w + F2 → m < f' → c ≤ W * g + w → zFX I T → zFM J U → U 0 9 = J 0 9 → zP (fX6_odds_L41 (fun a0 a1 a2 a3 I => fX6_odds_L26 F1 a0 a1 a2 a3 I) F2 (nI y) (nI x) (nI c) (nI g) (nI w) T) (fX7_odds_L26 f' (nI y) (nI x) (nI c) (nI (W * g + w)) U) := by
  have h6 : G ≤ 6 := hc.2.2.2.1
  have h4 : W ≤ 4 := hc.2.2.2.2.2.2.1
  intro m
  induction m with
  | zero =>
    intro g w F1 F2 f' T U c hg hw hm
    have := (zq_WG hw hg h6 h4).1
    omega
  | succ m ih =>
    intro g w F1 F2 f' T U c hg hw hm hF1 hF2 hf' hcc hX hM h9
    obtain ⟨F2, rfl⟩ : ∃ x, F2 = x + 1 := ⟨F2 - 1, by omega⟩
    obtain ⟨f', rfl⟩ : ∃ x, f' = x + 1 := ⟨f' - 1, by omega⟩
    have hWG := zq_WG hw hg h6 h4
    have t11 : T 10 1 = nI W := by rw [hX 10 (by omega) (by omega)]; exact hc.2.2.2.2.1
    have u5 : U 0 5 = nI G := by rw [hM.2 5 (by omega)]; exact hc.2.1
    have u6 : U 0 6 = nI W := by rw [hM.2 6 (by omega)]; exact hc.2.2.2.2.2.1
    obtain ⟨T', b, U1, s, U', U'', hb, y1, y2, y3, y4, y5, y6, y7, y8, y9, y10⟩ := zod_S hc hX hM h9 hg hw hy
    have t1 : ¬ nI W ≤ nI w := nI_ge (by omega) (by omega)
    have t2 : ¬ nI (W * G) ≤ nI (W * g + w) := nI_ge (by omega) (by omega)
    have t3 : ¬ nI W = 0 := nI_ne0 (by omega) (by omega)
    have e1 : nI (W * g + w) / nI W = nI g := by rw [pk_div (by omega) (by omega) (by omega), (zq_dv hw).1]
    have e2 : nI (W * g + w) - nI g * nI W = nI w := by
      have := pk_rem (a := W * g + w) (d := W) (by omega) (by omega) (by omega)
      rw [e1, (zq_dv hw).2] at this
      exact this
    have next : ∀ c', c' ≤ W * g + w + 1 → zP (fX6_odds_L41 (fun a0 a1 a2 a3 I => fX6_odds_L26 F1 a0 a1 a2 a3 I) F2 (nI y) (nI x) (nI c') (nI g) (nI (w + 1)) T') (fX7_odds_L26 f' (nI y) (nI x) (nI c') (nI (W * g + w + 1)) U'') := by
      intro c' hc'
      by_cases q : w + 1 < W
      · exact ih g (w + 1) F1 F2 f' T' U'' c' hg q (by omega) hF1 (by omega) (by omega) (by omega) y8 y9 y10
      · obtain ⟨F2, rfl⟩ : ∃ x, F2 = x + 1 := ⟨F2 - 1, by omega⟩
        have eW : w + 1 = W := by omega
        have t4 : nI W ≤ nI (w + 1) := nI_le (by omega) (by omega)
        have t11' : T' 10 1 = nI W := by rw [y8 10 (by omega) (by omega)]; exact hc.2.2.2.2.1
        have eN : W * g + w + 1 = W * (g + 1) := by rw [Nat.mul_succ]; omega
        rw [fX6_odds_L41, t11', if_pos t4, nI_1, eN]
        obtain ⟨F1, rfl⟩ : ∃ x, F1 = x + 1 := ⟨F1 - 1, by omega⟩
        by_cases q2 : g + 1 < G
        · have t10' : T' 10 0 = nI G := by rw [y8 10 (by omega) (by omega)]; exact hc.1
          have t5 : ¬ nI G ≤ nI (g + 1) := nI_ge (by omega) (by omega)
          show zP (fX6_odds_L26 (F1 + 1) (nI y) (nI x) (nI c') (nI (g + 1)) T') _
          rw [fX6_odds_L26, t10', if_neg t5]
          exact ih (g + 1) 0 F1 1000 f' T' U'' c' q2 (by omega) (by omega) (by omega) (by omega) (by omega) (by omega) y8 y9 y10
        · have eG : g + 1 = G := by omega
          obtain ⟨f', rfl⟩ : ∃ x, f' = x + 1 := ⟨f' - 1, by omega⟩
          rw [eG]
          rw [eN, eG] at hc'
          exact zod_end h hc (by omega) hc' hx y8 y9 y10 F1 f'
    rw [fX6_odds_L41, fX7_odds_L26, t11, u5, u6, if_neg t1, pk_mul, Nat.mul_comm G W, if_neg t2, y1, zxV_s, y2, zxB_s, y3, zxV_s, y4, if_pos t3, e1, e2, y5, zxB_s, y6, zxV_s, y7, nI_add]
    simp only [nI_1]
    by_cases q : b = 0
    · subst q
      rw [if_pos (show nI 0 = (0 : Int32) from rfl), Nat.add_zero]
      exact next c (by omega)
    · have eb : b = 1 := by omega
      subst eb
      rw [if_neg (show ¬ nI 1 = (0 : Int32) by decide)]
      exact next (c + 1) (by omega)
theorem zop_odds {I J : zxI} (h : zR I J) (x1 x2 : Int32) : zP (fX6_odds x1 x2 I) (fX7_odds x1 x2 J) := by
  obtain ⟨⟨G, W, hc⟩, hf⟩ := id h
  have h6 : G ≤ 6 := hc.2.2.2.1
  unfold fX6_odds fX7_odds
  simp only [zX_isG, zM_isG, zM_wi, hc.1, hc.2.1, zxB_s, zi_b, zi_rg]
  refine zP_ite (fun q => ?_) (fun _ => zP_ok h)
  refine zP_ite (fun q2 => ?_) (fun _ => zP_ok h)
  obtain ⟨y, hy, rfl⟩ := zq_of (by omega) q
  obtain ⟨x, hx, rfl⟩ := zq_ofL (n := 1) rfl q2
  have hW : 0 < W := hc.2.2.2.2.2.2.2.1 (by omega)
  have t1 : ¬ nI G ≤ (0 : Int32) := nI_nle (by omega) (by omega)
  have := zod_L (x := x) (y := y) h hc (by omega) (by omega) (W * G) 0 0 999 1000 1000 I J 0 (by omega) hW (by omega) (by omega) (by have := hc.2.2.2.2.2.2.1; omega) (by have := Nat.mul_le_mul hc.2.2.2.2.2.2.1 h6; omega) (by omega) (fun _ _ _ => rfl) zFM_r rfl
  rw [fX6_odds_L26, hc.1, if_neg t1]
  exact this
