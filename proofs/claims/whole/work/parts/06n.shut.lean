/-! shut -/
theorem zi_rg {α : Type} {x : Int32} {M : Int32} {A B : α} : (if x < 0 then A else if x ≤ M then B else A) = if 0 ≤ x ∧ x ≤ M then B else A := by
  by_cases q : x < 0
  · rw [if_pos q, if_neg (fun z => absurd z.1 (Int32.not_le.mpr q))]
  · rw [if_neg q]
    by_cases q2 : x ≤ M
    · rw [if_pos q2, if_pos (And.intro (Int32.not_lt.mp q) q2)]
    · rw [if_neg q2, if_neg (fun z => q2 z.2)]
/-- between two trials -/
def zFX (I T : zxI) : Prop := ∀ q, q ≠ 16 → q ≠ 17 → T q = I q
def zFM (J U : zxI) : Prop := (∀ q, 1 ≤ q → q ≠ 10 → U q = J q) ∧ ∀ k, k < 9 ∨ (10 ≤ k ∧ k < 20) ∨ k = 25 → U 0 k = J 0 k
theorem zFM_r {J : zxI} : zFM J J := ⟨fun _ _ _ => rfl, fun _ _ => rfl⟩
theorem zT_0' {I J T0 U0 : zxI} {G W : Nat} (hc : zRc I J G W) (hX : zFX I T0) (hM : zFM J U0) : ∃ T U d, fX0_becomeLike 1 0 T0 = some T ∧ fX7_keep U0 = some U ∧ zTT I J T U G d ∧ ∀ k, k ≠ 20 → U 0 k = U0 0 k := by
  obtain ⟨c1, c2, c3, c4, c5, c6, c7, c8, c9, c10, c11, c12, ⟨d, hd, ed⟩, c14, c15, c16, c17, c18, c19, c20, c21, c22, -⟩ := hc
  have t14 : T0 (zaO 0) = I (zaO 0) := hX _ (by decide) (by decide)
  have t15 : T0 (zaF 0) = I (zaF 0) := hX _ (by decide) (by decide)
  have u6 : U0 6 = J 6 := hM.1 6 (by omega) (by omega)
  have u8 : U0 0 8 = J 0 8 := hM.2 8 (by omega)
  refine ⟨_, _, d, zX_bl T0, zM_keep (by rw [hM.2 5 (by omega)]; exact c2) c4, ⟨?_, ?_, ?_, ?_, ?_, hd, ?_, ?_, ?_, ?_, ?_⟩, ?_⟩
  · intro q h1 h2
    rw [zxU_q (show q ≠ zaO 1 from h1), zSR_n (show q ≠ zaF 1 from h2)]
    exact hX q h1 h2
  · rw [zxU_q (show 17 ≠ zaO 1 by decide), show 17 = zaF 1 from rfl, zSR_s, t15]
    exact zF_E c20 zcpy_6
  · rw [zxU_q (show 17 ≠ zaO 1 by decide), show 17 = zaF 1 from rfl, zSR_s, zSR_n (by decide), zxU_q (by decide), u6, c18, t15]
    exact zcpy_6
  · rw [show 16 = zaO 1 from rfl, zxU_s, t14, ed]
  · rw [zSR_n (by decide), zxU_k (by decide), u8, c12, ed]
  · intro q hq
    rw [zSR_n (by omega), zxU_q (by omega)]
    exact hM.1 q (by omega) (by omega)
  · intro k hk
    rw [zSR_n (by decide), zxU_k (by omega)]
    exact hM.2 k (by omega)
  · intro k hk
    rw [zSR_s, if_pos hk, u6]
  · rw [zSR_n (by decide), zxU_s, u8]
  · intro k hk
    rw [zSR_n (by decide), zxU_q (by decide), u6]
  · intro k hk
    rw [zSR_n (by decide), zxU_k hk]
theorem zsu_L {I J : zxI} {k i n G W : Nat} {dr : Int32} (hc : zRc I J G W) (h35 : I 35 0 = nI n) (hk : k < 4) (hi : i + 2 * n ≤ 60) (hn : n ≤ 20) (hP : ∀ p, p < n → zPr I J k i G W p) : ∀ (m p f f' : Nat) (T U : zxI) (d a : Nat), p + m = n → m < f → m < f' → zTT I J T U G d → U 0 9 = dr → a < 64 → a ||| d = d → U 0 21 = nI (zpc a) → ∃ T' U' d' a', fX6_dropsWithDoors_L20 f dr (nI a) (nI p) T = some (nI (zpc a'), T') ∧ fX7_goShift_L13 f' (nI (60 * k + i)) (nI n) (nI p) U = some U' ∧ zTT I J T' U' G d' ∧ U' 0 9 = dr ∧ a' < 64 ∧ U' 0 21 = nI (zpc a') := by
  intro m
  induction m with
  | zero =>
    intro p f f' T U d a hp hf hf' hT h9 ha had h21
    obtain ⟨f, rfl⟩ : ∃ x, f = x + 1 := ⟨f - 1, by omega⟩
    obtain ⟨f', rfl⟩ : ∃ x, f' = x + 1 := ⟨f' - 1, by omega⟩
    have e : p = n := by omega
    subst e
    have r35 : T 35 = I 35 := hT.x 35 (by omega) (by omega)
    have t : nI p ≤ nI p := nI_le (Nat.le_refl _) (by omega)
    refine ⟨T, U, d, a, ?_, ?_, hT, h9, ha, h21⟩
    · rw [fX6_dropsWithDoors_L20, r35, h35, if_pos t, zJ_bc ha, zxB_s]
    · rw [fX7_goShift_L13, if_pos t]
  | succ m ih =>
    intro p f f' T U d a hp hf hf' hT h9 ha had h21
    obtain ⟨f, rfl⟩ : ∃ x, f = x + 1 := ⟨f - 1, by omega⟩
    obtain ⟨f', rfl⟩ : ∃ x, f' = x + 1 := ⟨f' - 1, by omega⟩
    have a2 : nI (60 * k + i) + (2 : Int32) * nI p = nI (60 * k + i + 2 * p) := by rw [show (2 : Int32) = nI 2 from rfl, pk_mul, nI_add]
    have r35 : T 35 = I 35 := hT.x 35 (by omega) (by omega)
    obtain ⟨g, w, hg, hw, e1, e2, e3, e4⟩ := zTT_pair hT (hP p (by omega)) (show p < n by omega) hn hk hi
    obtain ⟨T', U', s, hX, hM, hs, hz, hT', hk'⟩ := zT_br (dr := dr) hc hT h9 hg hw
    have t1 : ¬ nI n ≤ nI p := nI_ge (by omega) (by omega)
    rw [fX6_dropsWithDoors_L20, fX7_goShift_L13, r35, h35, if_neg t1, if_neg t1, a2, nI_1]
    simp only [zq_in (show p < 20 by omega) (show 20 < 2 ^ 31 by decide), zq_in (show 60 * k + i + 2 * p < 240 by omega) (show 240 < 2 ^ 31 by decide), zq_in (show 60 * k + i + 2 * p + 1 < 240 by omega) (show 240 < 2 ^ 31 by decide), if_true, zq_cl (show p < 2 ^ 31 by omega), zq_cl (show 60 * k + i + 2 * p < 2 ^ 31 by omega), zq_cl (show 60 * k + i + 2 * p + 1 < 2 ^ 31 by omega), e1, e2, e3, e4, hX, hM, zxB_s, zM_sz hs, nI_1, (zd_orN a ha s hs).1]
    have u21 : U' 0 21 = nI (zpc a) := by rw [hk' 21 (by decide)]; exact h21
    have u9 : U' 0 9 = dr := by rw [hk' 9 (by decide)]; exact h9
    have hsum : nI (zpc a) + nI (zpc s) = nI (zpc (a ||| s)) := by rw [nI_add, (zd_pc a ha s hs).1 (zd_s1 had hz)]
    rw [u21, hsum, zxU_k (show 22 ≠ 21 by decide)]
    have go : ∀ v', ∃ T'' U'' d'' a'', fX6_dropsWithDoors_L20 f dr (nI (a ||| s)) (nI (p + 1)) T' = some (nI (zpc a''), T'') ∧ fX7_goShift_L13 f' (nI (60 * k + i)) (nI n) (nI (p + 1)) (zxU (zxU U' 0 21 (nI (zpc (a ||| s)))) 0 22 v') = some U'' ∧ zTT I J T'' U'' G d'' ∧ U'' 0 9 = dr ∧ a'' < 64 ∧ U'' 0 21 = nI (zpc a'') := by
      intro v'
      exact ih (p + 1) f f' T' _ (d ||| s) (a ||| s) (by omega) (by omega) (by omega) (zTT_u (zTT_u hT' (by decide) (by decide)) (by decide) (by decide)) (by rw [zxU_k (by decide), zxU_k (by decide)]; exact u9) (zd_orN a ha s hs).2 (zd_s2 had) (by rw [zxU_k (by decide), zxU_s])
    by_cases q2 : U' 0 22 = -9
    · rw [if_pos q2]
      by_cases q : nI s = 0
      · rw [if_pos q]
        exact go _
      · rw [if_neg q]
        exact go _
    · rw [if_neg q2]
      exact go _
theorem zsu_body {I J T0 U0 : zxI} {k i n G W : Nat} {dr : Int32} (hc : zRc I J G W) (h35 : I 35 0 = nI n) (hk : k < 4) (hi : i + 2 * n ≤ 60) (hn : n ≤ 20) (hP : ∀ p, p < n → zPr I J k i G W p) (hX : zFX I T0) (hM : zFM J U0) (h9 : U0 0 9 = dr) : ∃ T' U1 U2 U' a, fX6_dropsWithDoors dr T0 = some (nI (zpc a), T') ∧ fX7_keep U0 = some U1 ∧ fX7_goShift (nI (60 * k + i)) (nI n) U1 = some U2 ∧ fX7_putBack U2 = some U' ∧ zFX I T' ∧ zFM J U' ∧ a < 64 ∧ U' 0 21 = nI (zpc a) := by
  obtain ⟨T, U, d, e1, e2, hT, hk0⟩ := zT_0' hc hX hM
  obtain ⟨T', U', d', a', f1, f2, hT', h9', ha', h21⟩ := zsu_L (dr := dr) hc h35 hk hi hn hP n 0 1000 1000 T (zxU (zxU U 0 21 0) 0 22 (-9)) d 0 (by omega) (by omega) (by omega) (zTT_u (zTT_u hT (by decide) (by decide)) (by decide) (by decide)) (by rw [zxU_k (by decide), zxU_k (by decide), hk0 9 (by decide)]; exact h9) (by decide) (Nat.zero_or d) (by rw [zxU_k (by decide), zxU_s]; rfl)
  obtain ⟨U'', g1, g2, g3, g4⟩ := zT_1 hc hT'
  rw [show nI 0 = (0 : Int32) from rfl] at f1 f2
  refine ⟨T', U, U', U'', a', ?_, e2, f2, g1, hT'.x, ⟨g2, g3⟩, ha', by rw [g4 21 (by decide)]; exact h21⟩
  unfold fX6_dropsWithDoors
  rw [e1, zxV_s, f1]
theorem zd_sh : ∀ G, G < 7 → 0 < G → (1 : Int32) <<< ((nI G - 1) &&& 31) = nI (2 ^ (G - 1)) ∧ 2 ^ (G - 1) ≤ 32 ∧ 1 ≤ 2 ^ (G - 1) := by decide +kernel
theorem zFM_9 {J U : zxI} {v : Int32} (h : zFM J U) : zFM J (zxU U 0 9 v) := ⟨fun q h1 h2 => by rw [zxU_q (by omega)]; exact h.1 q h1 h2, fun k hk => by rw [zxU_k (by omega)]; exact h.2 k hk⟩
theorem zsu_O {I J : zxI} {k i n G W : Nat} {x5 : Int32} (h : zR I J) (hc : zRc I J G W) (hG : 0 < G) (h35 : I 35 0 = nI n) (hk : k < 4) (hi : i + 2 * n ≤ 60) (hn : n ≤ 20) (hP : ∀ p, p < n → zPr I J k i G W p) : ∀ (m v f f' : Nat) (T U : zxI) (b c : Nat), v + m = 2 ^ (G - 1) → m < f → m < f' → zFX I T → zFM J U → b < 64 → c ≤ 6 → zP (fX6_shut_L84 f x5 (nI b) (nI c) (nI v) T) (fX7_shut_L49 f' (nI k) (nI i) (nI n) x5 (J 0 9) (nI b) (nI c) (nI v) U) := by
  obtain ⟨s1, s2, s3⟩ := zd_sh G (by have := hc.2.2.2.1; omega) hG
  intro m
  induction m with
  | zero =>
    intro v f f' T U b c hv hf hf' hX hM hb hcc
    obtain ⟨f, rfl⟩ : ∃ x, f = x + 1 := ⟨f - 1, by omega⟩
    obtain ⟨f', rfl⟩ : ∃ x, f' = x + 1 := ⟨f' - 1, by omega⟩
    have t10 : T 10 0 = nI G := by rw [hX 10 (by omega) (by omega)]; exact hc.1
    have u5 : U 0 5 = nI G := by rw [hM.2 5 (by omega)]; exact hc.2.1
    have t : nI (2 ^ (G - 1)) ≤ nI v := nI_le (by omega) (by omega)
    have hr : zR T (zxU U 0 9 (J 0 9)) := zR_f h (fun q hq => hX q (by omega) (by omega)) ⟨fun q hq => by rw [zxU_q (by omega)]; exact hM.1 q (by omega) (by omega), fun k hk => by
      by_cases e : k = 9
      · subst e
        exact zxU_s
      · rw [zxU_k e]; exact hM.2 k (by omega)⟩
    rw [fX6_shut_L84, fX7_shut_L49, t10, u5, s1, if_pos t, if_pos t]
    exact zP_ite (fun _ => zP_ok hr) (fun _ => zP_ok hr)
  | succ m ih =>
    intro v f f' T U b c hv hf hf' hX hM hb hcc
    obtain ⟨f, rfl⟩ : ∃ x, f = x + 1 := ⟨f - 1, by omega⟩
    obtain ⟨f', rfl⟩ : ∃ x, f' = x + 1 := ⟨f' - 1, by omega⟩
    have t10 : T 10 0 = nI G := by rw [hX 10 (by omega) (by omega)]; exact hc.1
    have u5 : U 0 5 = nI G := by rw [hM.2 5 (by omega)]; exact hc.2.1
    have t : ¬ nI (2 ^ (G - 1)) ≤ nI v := nI_ge (by omega) (by omega)
    have a2 : (60 : Int32) * nI k + nI i = nI (60 * k + i) := by rw [show (60 : Int32) = nI 60 from rfl, pk_mul, nI_add]
    obtain ⟨T', U1, U2, U', a, y1, y2, y3, y4, y5, y6, y7, y8⟩ := zsu_body hc h35 hk hi hn hP hX (zFM_9 (v := nI v) hM) zxU_s
    have hv64 : v < 64 := by omega
    have n9 : ¬ nI c = (-9 : Int32) := by
      have : ∀ c, c < 7 → ¬ nI c = (-9 : Int32) := by decide
      exact this c (by omega)
    have ha6 : zpc a ≤ 6 := (zd_pc 0 (by omega) a y7).2
    rw [fX6_shut_L84, fX7_shut_L49, t10, u5, s1, if_neg t, if_neg t, y1, y2, zxB_s, zxV_s, a2, y3, zxV_s, y4, zxV_s, if_neg n9, y8, nI_1]
    refine zP_ite (fun _ => ?_) (fun _ => zP_ite (fun _ => ?_) (fun _ => ?_))
    · exact ih (v + 1) f f' T' U' v (zpc a) (by omega) (by omega) (by omega) y5 y6 hv64 ha6
    · rw [zJ_bc hv64, zM_sz hv64, zxB_s, zxB_s, zJ_bc hb, zM_sz hb, zxB_s, zxB_s, y8]
      exact zP_ite (fun _ => ih (v + 1) f f' T' U' b c (by omega) (by omega) (by omega) y5 y6 hb hcc) (fun _ => ih (v + 1) f f' T' U' v (zpc a) (by omega) (by omega) (by omega) y5 y6 hv64 ha6)
    · exact ih (v + 1) f f' T' U' b c (by omega) (by omega) (by omega) y5 y6 hb hcc
theorem zsu_all {I J : zxI} {k i n G W : Nat} {x5 : Int32} (hk : k < 4) (hn : n ≤ 20) (h : zR I J) (hc : zRc I J G W) (hG : 0 < G) (hi : i + 2 * n ≤ 60) (h35 : I 35 0 = nI n) (hP : ∀ p, p < n → zPr I J k i G W p) : zP (zxB (fX6_dropsWithDoors 0 I) (fun r_12 I_12 => fX6_shut_L84 1000 x5 0 r_12 1 I_12)) (fX7_shut_L49 1000 (nI k) (nI i) (nI n) x5 (J 0 9) 0 (-9) 0 J) := by
  obtain ⟨s1, s2, s3⟩ := zd_sh G (by have := hc.2.2.2.1; omega) hG
  have t : ¬ nI (2 ^ (G - 1)) ≤ (0 : Int32) := nI_ge (a := 0) (by omega) (by omega)
  have a2 : (60 : Int32) * nI k + nI i = nI (60 * k + i) := by rw [show (60 : Int32) = nI 60 from rfl, pk_mul, nI_add]
  obtain ⟨T', U1, U2, U', a, y1, y2, y3, y4, y5, y6, y7, y8⟩ := zsu_body hc h35 hk hi hn hP (fun _ _ _ => rfl) (zFM_9 (v := 0) (zFM_r (J := J))) zxU_s
  have ha6 : zpc a ≤ 6 := (zd_pc 0 (by omega) a y7).2
  have := zsu_O (x5 := x5) h hc hG h35 hk hi hn hP (2 ^ (G - 1) - 1) 1 1000 999 T' U' 0 (zpc a) (by omega) (by omega) (by omega) y5 y6 (by omega) ha6
  rw [y1, zxB_s, fX7_shut_L49, hc.2.1, s1, if_neg t, y2, zxV_s, a2, y3, zxV_s, y4, zxV_s, if_pos (by rfl : (-9 : Int32) = -9), y8]
  exact this
theorem zop_shut {I J : zxI} (h : zR I J) (x1 x2 x3 x4 x5 : Int32) : zP (fX6_shut x1 x2 x3 x4 x5 I) (fX7_shut x1 x2 x3 x4 x5 J) := by
  have h := zR_fault h 0
  unfold fX6_shut fX7_shut
  generalize zxU I 0 10 0 = I at h ⊢
  generalize zxU J 0 0 0 = J at h ⊢
  simp only [zX_isS, zX_isL, zM_wi, zxB_s, zi_b, zi_rg]
  exact zref h x1 x2 x3 x4 (lim := 20) (by omega) (0 ≤ x5 ∧ x5 ≤ 1)
    (K := fun r_2 I_2 => if r_2 = 0 then fX7_shut_L49 1000 x1 x3 x4 x5 (I_2 0 9) 0 (-9) 0 I_2 else some (r_2, I_2))
    (KX := fun I_10 => zxB (fX6_dropsWithDoors 0 I_10) (fun r_12 I_12 => fX6_shut_L84 1000 x5 0 r_12 1 I_12))
    (fun r J' hr => if_neg hr)
    (fun k n i G W I' hk hn e1 e4 e3 hb hz => by
      subst e1 e4 e3
      exact zsu_all hk hn hz.2.2.1 hz.2.2.2.1 hz.2.1 hz.2.2.2.2.1 hz.2.2.2.2.2.2.1 hz.2.2.2.2.2.2.2)
