/-! the reference takes the mine -/
theorem zM_mkG {W G : Nat} {c : Nat → Int32} (h6 : G ≤ 6) (h2 : 2 ≤ G) (hd : ∀ g, g < G → ∃ b, b < 2 ∧ c (1 + W + 5 * g + 4) - 48 = nI b) : ∀ (m g f : Nat) (J : zxI), g + m = G → m < f → J 0 5 = nI G → (∀ g', g' < G → zGd c W g' (J 9)) → ∃ J', fX7_takeMine_L51 f (nI g) J = some (zxU (zxU (zxU J' 0 7 0) 0 8 0) 0 25 0) ∧ (∀ q, q ≠ 0 → q ≠ 5 → q ≠ 6 → q ≠ 7 → J' q = J q) ∧ (∀ k, k ≠ 9 → J' 0 k = J 0 k) ∧ J' 0 9 = zdr c W G m g (J 0 9) ∧ J' 5 = zrw (fun g => zkl (c (1 + W + 5 * g + 1))) (J 5) g G ∧ J' 6 = zrw (fun g => c (1 + W + 5 * g + 2) - 48) (J 6) g G ∧ J' 7 = zrw (fun g => c (1 + W + 5 * g + 3) - 48) (J 7) g G := by
  intro m
  induction m with
  | zero =>
    intro g f J hg hf hG hD
    obtain ⟨f, rfl⟩ : ∃ x, f = x + 1 := ⟨f - 1, by omega⟩
    have e : g = G := by omega
    subst e
    have t : nI g ≤ nI g := nI_le (Nat.le_refl _) (by omega)
    refine ⟨J, ?_, fun _ _ _ _ _ => rfl, fun _ _ => rfl, rfl, zrw_0.symm, zrw_0.symm, zrw_0.symm⟩
    rw [fX7_takeMine_L51, hG, if_pos t]
  | succ m ih =>
    intro g f J hg hf hG hD
    obtain ⟨f, rfl⟩ : ∃ x, f = x + 1 := ⟨f - 1, by omega⟩
    have t : ¬ nI G ≤ nI g := nI_ge (by omega) (by omega)
    have i0 : (4 : Int32) * nI g = nI (4 * g) := by rw [show (4 : Int32) = nI 4 from rfl, pk_mul]
    have i1 : nI (4 * g) + 1 = nI (4 * g + 1) := nI_1 _
    have i2 : nI (4 * g) + 2 = nI (4 * g + 2) := nI_add _ 2
    have i3 : nI (4 * g) + 3 = nI (4 * g + 3) := nI_add _ 3
    have hG1 : nI G - 1 = nI (G - 1) := by
      obtain ⟨y, rfl⟩ : ∃ y, G = y + 1 := ⟨G - 1, by omega⟩
      rw [nI_pred, Nat.add_sub_cancel]
    obtain ⟨d1, d2, d3, d4⟩ := hD g (by omega)
    obtain ⟨b, hb, eb⟩ := hd g (by omega)
    rw [eb] at d4
    rw [fX7_takeMine_L51, hG, if_neg t, i0, i1, i2, i3, if_pos (zq_in (show 4 * g < 24 by omega) (by decide)), if_pos (zq_in (show g < 6 by omega) (by decide)), if_pos (zq_in (show 4 * g + 1 < 24 by omega) (by decide)), if_pos (zq_in (show 4 * g + 2 < 24 by omega) (by decide)), if_pos (zq_in (show 4 * g + 3 < 24 by omega) (by decide)), zq_cl (show 4 * g < 2 ^ 31 by omega), zq_cl (show 4 * g + 1 < 2 ^ 31 by omega), zq_cl (show 4 * g + 2 < 2 ^ 31 by omega), zq_cl (show 4 * g + 3 < 2 ^ 31 by omega), zq_cl (show g < 2 ^ 31 by omega)]
    have e9a : (zxU J 5 g (J 9 (4 * g))) 9 = J 9 := zxU_q (by decide)
    have e9b : ∀ v, (zxU (zxU J 5 g (J 9 (4 * g))) 6 g v) 9 = J 9 := fun v => by rw [zxU_q (by decide), e9a]
    have e9c : ∀ v w, (zxU (zxU (zxU J 5 g (J 9 (4 * g))) 6 g v) 7 g w) 9 = J 9 := fun v w => by rw [zxU_q (by decide), e9b]
    rw [e9a, e9b, e9c, d1, d2, d3, d4]
    obtain ⟨J1, hJ1⟩ : ∃ X, X = zxU (zxU (zxU J 5 g (zkl (c (1 + W + 5 * g + 1)))) 6 g (c (1 + W + 5 * g + 2) - 48)) 7 g (c (1 + W + 5 * g + 3) - 48) := ⟨_, rfl⟩
    have r0 : J1 0 = J 0 := by rw [hJ1, zxU_q (by decide), zxU_q (by decide), zxU_q (by decide)]
    have r5 : J1 5 = upd (J 5) g (zkl (c (1 + W + 5 * g + 1))) := by rw [hJ1, zxU_q (by decide), zxU_q (by decide), zSR_U, zSR_s]
    have r6 : J1 6 = upd (J 6) g (c (1 + W + 5 * g + 2) - 48) := by rw [hJ1, zxU_q (by decide), zSR_U, zSR_s, zxU_q (by decide)]
    have r7 : J1 7 = upd (J 7) g (c (1 + W + 5 * g + 3) - 48) := by rw [hJ1, zSR_U, zSR_s, zxU_q (by decide), zxU_q (by decide)]
    have rq : ∀ q, q ≠ 5 → q ≠ 6 → q ≠ 7 → J1 q = J q := fun q h1 h2 h3 => by rw [hJ1, zxU_q h3, zxU_q h2, zxU_q h1]
    rw [← hJ1, r0, hG, hG1, nI_1]
    clear hJ1
    have fin : ∀ x, x = (if g + 1 < G then J 0 9 ||| ((c (1 + W + 5 * g + 4) - 48) <<< (nI g &&& 31)) else J 0 9) → ∃ J', fX7_takeMine_L51 f (nI (g + 1)) (zxU J1 0 9 x) = some (zxU (zxU (zxU J' 0 7 0) 0 8 0) 0 25 0) ∧ (∀ q, q ≠ 0 → q ≠ 5 → q ≠ 6 → q ≠ 7 → J' q = J q) ∧ (∀ k, k ≠ 9 → J' 0 k = J 0 k) ∧ J' 0 9 = zdr c W G (m + 1) g (J 0 9) ∧ J' 5 = zrw (fun g => zkl (c (1 + W + 5 * g + 1))) (J 5) g G ∧ J' 6 = zrw (fun g => c (1 + W + 5 * g + 2) - 48) (J 6) g G ∧ J' 7 = zrw (fun g => c (1 + W + 5 * g + 3) - 48) (J 7) g G := by
      intro x hx
      obtain ⟨J', y1, y2, y3, y4, y5, y6, y7⟩ := ih (g + 1) f (zxU J1 0 9 x) (by omega) (by omega) (by rw [zxU_k (by decide), r0]; exact hG) (by rw [zxU_q (by decide), rq 9 (by decide) (by decide) (by decide)]; exact hD)
      refine ⟨J', y1, fun q a b d e => by rw [y2 q a b d e, zxU_q a, rq q b d e], fun k hk => by rw [y3 k hk, zxU_k hk, r0], ?_, ?_, ?_, ?_⟩
      · rw [y4, zxU_s, hx]
        rfl
      · rw [y5, zxU_q (by decide), r5, zrw_s (by omega) rfl]
      · rw [y6, zxU_q (by decide), r6, zrw_s (by omega) rfl]
      · rw [y7, zxU_q (by decide), r7, zrw_s (by omega) rfl]
    rw [eb] at fin
    by_cases q : b = 0
    · subst q
      rw [if_neg (by decide : ¬ nI 0 = (1 : Int32))]
      refine fin _ ?_
      rw [zd_sh0 g (by omega), Int32.or_zero]
      by_cases q2 : g + 1 < G
      · rw [if_pos q2]
      · rw [if_neg q2]
    · have e1 : b = 1 := by omega
      subst e1
      rw [if_pos (by decide : nI 1 = (1 : Int32))]
      by_cases q2 : g + 1 < G
      · have t2 : ¬ nI (G - 1) ≤ nI g := nI_ge (by omega) (by omega)
        rw [if_neg t2]
        refine fin _ ?_
        rw [if_pos q2]
        rfl
      · have t2 : nI (G - 1) ≤ nI g := nI_le (by omega) (by omega)
        rw [if_pos t2]
        refine fin _ ?_
        rw [if_neg q2, Int32.or_zero]
theorem zM_mkW {W G : Nat} {c : Nat → Int32} (hW : W ≤ 4) : ∀ (m w f : Nat) (J : zxI), w + m = W → m < f → J 0 6 = nI W → J 0 16 = nI G → (∀ w, w < W → J 8 w = c (1 + w) - 48) → ∃ J', fX7_takeMine_L10 f (nI w) J = fX7_takeMine_L51 1000 0 (zxU (zxU J' 0 5 (nI G)) 0 9 0) ∧ (∀ q, q ≠ 4 → J' q = J q) ∧ J' 4 = zrw (fun w => c (1 + w) - 48) (J 4) w W := by
  intro m
  induction m with
  | zero =>
    intro w f J hw hf h6 h16 h8
    obtain ⟨f, rfl⟩ : ∃ x, f = x + 1 := ⟨f - 1, by omega⟩
    have e : w = W := by omega
    subst e
    have t : nI w ≤ nI w := nI_le (Nat.le_refl _) (by omega)
    refine ⟨J, ?_, fun _ _ => rfl, zrw_0.symm⟩
    rw [fX7_takeMine_L10, h6, if_pos t, h16]
  | succ m ih =>
    intro w f J hw hf h6 h16 h8
    obtain ⟨f, rfl⟩ : ∃ x, f = x + 1 := ⟨f - 1, by omega⟩
    have t : ¬ nI W ≤ nI w := nI_ge (by omega) (by omega)
    rw [fX7_takeMine_L10, h6, if_neg t, if_pos (zq_in (show w < 4 by omega) (by decide)), zq_cl (show w < 2 ^ 31 by omega), h8 w (by omega), nI_1]
    obtain ⟨J', y1, y2, y3⟩ := ih (w + 1) f (zxU J 4 w (c (1 + w) - 48)) (by omega) (by omega) (by rw [zxU_q (by decide)]; exact h6) (by rw [zxU_q (by decide)]; exact h16) (by rw [zxU_q (by decide)]; exact h8)
    refine ⟨J', y1, fun q hq => (y2 q hq).trans (zxU_q hq), ?_⟩
    rw [y3, zSR_U, zSR_s, zrw_s (by omega) rfl]
theorem zM_make {J : zxI} {W G : Nat} {c : Nat → Int32} (hW : W ≤ 4) (h6 : G ≤ 6) (h2 : 2 ≤ G) (hd : ∀ g, g < G → ∃ b, b < 2 ∧ c (1 + W + 5 * g + 4) - 48 = nI b) (h15 : J 0 15 = nI W) (h16 : J 0 16 = nI G) (h8 : ∀ w, w < W → J 8 w = c (1 + w) - 48) (hD : ∀ g', g' < G → zGd c W g' (J 9)) : ∃ J', fX7_takeMine J = some J' ∧ (∀ q, q ≠ 0 → q ≠ 4 → q ≠ 5 → q ≠ 6 → q ≠ 7 → J' q = J q) ∧ (∀ k, k ≠ 5 → k ≠ 6 → k ≠ 7 → k ≠ 8 → k ≠ 9 → k ≠ 25 → J' 0 k = J 0 k) ∧ J' 0 5 = nI G ∧ J' 0 6 = nI W ∧ J' 0 7 = 0 ∧ J' 0 8 = 0 ∧ J' 0 25 = 0 ∧ J' 0 9 = zdr c W G G 0 0 ∧ J' 4 = zrw (fun w => c (1 + w) - 48) (J 4) 0 W ∧ J' 5 = zrw (fun g => zkl (c (1 + W + 5 * g + 1))) (J 5) 0 G ∧ J' 6 = zrw (fun g => c (1 + W + 5 * g + 2) - 48) (J 6) 0 G ∧ J' 7 = zrw (fun g => c (1 + W + 5 * g + 3) - 48) (J 7) 0 G := by
  obtain ⟨J1, y1, y2, y3⟩ := zM_mkW (G := G) (c := c) hW W 0 1000 (zxU J 0 6 (nI W)) (by omega) (by omega) zxU_s (by rw [zxU_k (by decide)]; exact h16) (by rw [zxU_q (by decide)]; exact h8)
  obtain ⟨J2, z1, z2, z3, z4, z5, z6, z7⟩ := zM_mkG (W := W) (c := c) h6 h2 hd G 0 1000 (zxU (zxU J1 0 5 (nI G)) 0 9 0) (by omega) (by omega) (by rw [zxU_k (by decide), zxU_s]) (by rw [zxU_q (by decide), zxU_q (by decide), y2 9 (by decide), zxU_q (by decide)]; exact hD)
  unfold fX7_takeMine
  rw [show nI 0 = (0 : Int32) from rfl] at y1 z1
  rw [h15, y1]
  refine ⟨_, z1, ?_, ?_, ?_, ?_, ?_, ?_, zxU_s, ?_, ?_, ?_, ?_, ?_⟩
  · intro q a0 a4 a5 a6 a7
    rw [zxU_q a0, zxU_q a0, zxU_q a0, z2 q a0 a5 a6 a7, zxU_q a0, zxU_q a0, y2 q a4, zxU_q a0]
  · intro k a5 a6 a7 a8 a9 a25
    rw [zxU_k a25, zxU_k a8, zxU_k a7, z3 k a9, zxU_k a9, zxU_k a5, y2 0 (by decide), zxU_k a6]
  · rw [zxU_k (by decide), zxU_k (by decide), zxU_k (by decide), z3 5 (by decide), zxU_k (by decide), zxU_s]
  · rw [zxU_k (by decide), zxU_k (by decide), zxU_k (by decide), z3 6 (by decide), zxU_k (by decide), zxU_k (by decide), y2 0 (by decide), zxU_s]
  · rw [zxU_k (by decide), zxU_k (by decide), zxU_s]
  · rw [zxU_k (by decide), zxU_s]
  · rw [zxU_k (by decide), zxU_k (by decide), zxU_k (by decide), z4, zxU_s]
  · rw [zxU_q (by decide), zxU_q (by decide), zxU_q (by decide), z2 4 (by decide) (by decide) (by decide) (by decide), zxU_q (by decide), zxU_q (by decide), y3, zxU_q (by decide)]
  · rw [zxU_q (by decide), zxU_q (by decide), zxU_q (by decide), z5, zxU_q (by decide), zxU_q (by decide), y2 5 (by decide), zxU_q (by decide)]
  · rw [zxU_q (by decide), zxU_q (by decide), zxU_q (by decide), z6, zxU_q (by decide), zxU_q (by decide), y2 6 (by decide), zxU_q (by decide)]
  · rw [zxU_q (by decide), zxU_q (by decide), zxU_q (by decide), z7, zxU_q (by decide), zxU_q (by decide), y2 7 (by decide), zxU_q (by decide)]
/-- what is told of a gallery's codes -/
theorem zkl_3 {x : Int32} (h : ¬ zkl x = -9) : zK3 (zkl x) := by
  unfold zkl at h ⊢
  by_cases a : x = 98
  · rw [if_pos a]; exact Or.inr (Or.inr rfl)
  · rw [if_neg a] at h ⊢
    by_cases b : x = 103
    · rw [if_pos b]; exact Or.inl rfl
    · rw [if_neg b] at h ⊢
      by_cases d : x = 110
      · rw [if_pos d]; exact Or.inr (Or.inl rfl)
      · rw [if_neg d] at h; exact absurd rfl h
theorem zdg_2 {x : Int32} (h : 48 ≤ x ∧ x ≤ 49) : ∃ v, v < 2 ∧ x - 48 = nI v := by
  obtain ⟨n, hn, rfl⟩ := zq_ofL (x := x) (M := 49) (n := 49) rfl ⟨Int32.le_trans (by decide) h.1, h.2⟩
  have h48 : 48 ≤ n := (nI_leI (a := 48) (b := n) (by decide) (by omega)).mp h.1
  refine ⟨n - 48, by omega, ?_⟩
  rw [show (48 : Int32) = nI 48 from rfl, pk_sub h48]
/-- the relation after a mine has been made anew -/
theorem zR_mine {I J I' J' : zxI} {W G N : Nat} {c : Nat → Int32} (h : zR I J) (hW0 : 0 < W) (hW : W ≤ 4) (h2 : 2 ≤ G) (h6 : G ≤ 6) (hw : ∀ w, w < W → 48 ≤ c (1 + w) ∧ c (1 + w) ≤ 57) (hg : ∀ g', g' < G → ∀ s, s < 5 → zfs c N (1 + W + 5 * g') s)
    (x0 : ∀ q, q ≠ 0 → q ≠ 10 → q ≠ 11 → q ≠ 12 → q ≠ 13 → q ≠ 14 → q ≠ 15 → q ≠ 31 → I' q = I q) (x1 : ∀ j, j ≠ 8 → I' 0 j = I 0 j) (x2 : I' 0 8 = 0) (x3 : I' 10 0 = nI G) (x4 : I' 10 1 = nI W) (x5 : I' 10 5 = zdr c W G G 0 0) (x6 : I' 11 = zrw (fun w => c (1 + w) - 48) (I 11) 0 W) (x7 : I' 12 = zrw (fun g => zkl (c (1 + W + 5 * g + 1))) (I 12) 0 G) (x8 : I' (zaF 0) = zrw (fun g => c (1 + W + 5 * g + 2) - 48) (I (zaF 0)) 0 G) (x9 : I' 13 = zrw (fun g => c (1 + W + 5 * g + 3) - 48) (I 13) 0 G) (x10 : I' (zaO 0) 1 = 0) (x11 : I' 31 0 = 0)
    (m0 : ∀ q, q ≠ 0 → q ≠ 4 → q ≠ 5 → q ≠ 6 → q ≠ 7 → q ≠ 8 → q ≠ 9 → J' q = J q) (m1 : ∀ k, k = 0 ∨ k = 1 → J' 0 k = J 0 k) (m2 : J' 0 5 = nI G) (m3 : J' 0 6 = nI W) (m4 : J' 0 7 = 0) (m5 : J' 0 8 = 0) (m6 : J' 0 25 = 0) (m7 : J' 0 9 = zdr c W G G 0 0) (m8 : J' 4 = zrw (fun w => c (1 + w) - 48) (J 4) 0 W) (m9 : J' 5 = zrw (fun g => zkl (c (1 + W + 5 * g + 1))) (J 5) 0 G) (m10 : J' 6 = zrw (fun g => c (1 + W + 5 * g + 2) - 48) (J 6) 0 G) (m11 : J' 7 = zrw (fun g => c (1 + W + 5 * g + 3) - 48) (J 7) 0 G) : zR I' J' := by
  obtain ⟨⟨G0, W0, c1, c2, c3, c4, c5, c6, c7, c8, c9, c10, c11, c12, c13, c14, c15, c16, c17, c18, c19, c20, c21, c22, c23, c24, c25, c26, c27, c28, c29⟩, hf⟩ := h
  have hd : ∀ g, g < G → ∃ b, b < 2 ∧ c (1 + W + 5 * g + 4) - 48 = nI b := fun g hg' => zdg_2 (zfs4.mp (hg g hg' 4 (by omega))).2
  obtain ⟨e, he, ee⟩ := zdr_32 (W := W) h6 hd G 0 0 (by omega) (by omega)
  rw [show nI 0 = (0 : Int32) from rfl] at ee
  refine ⟨⟨G, W, x3, m2, Or.inr h2, h6, x4, m3, hW, fun _ => hW0, by rw [m4, x2], by rw [m1 1 (Or.inr rfl), x1 9 (by decide)]; exact c10, by rw [m1 0 (Or.inl rfl), x1 10 (by decide)]; exact c11, by rw [m5, x10], ⟨0, by omega, x10⟩, by rw [m7, x5], ⟨e, he, by rw [x5, ee]⟩, by rw [m8, x6, c16], by rw [m9, x7, c17], by rw [m10, x8, c18], by rw [m11, x9, c19], ?_, ?_, ?_, ?_, by rw [m6, x11], ⟨0, by omega, x11⟩, ?_, ?_, ?_, ?_⟩, ?_⟩
  · intro g hg6
    rw [x8]
    by_cases q : g < G
    · rw [zrw_in q]
      obtain ⟨v, hv, ev⟩ := zdg_of (zfs2.mp (hg g q 2 (by omega))).2
      exact ⟨v, by omega, ev⟩
    · rw [zrw_out (by omega)]; exact c20 g hg6
  · intro w hw4
    rw [x6]
    by_cases q : w < W
    · rw [zrw_in q]
      exact zdg_of (hw w q)
    · rw [zrw_out (by omega)]; exact c21 w hw4
  · intro g hg6
    rw [x7]
    by_cases q : g < G
    · rw [zrw_in q]
      exact zkl_3 (zfs1.mp (hg g q 1 (by omega))).2
    · rw [zrw_out (by omega)]; exact c22 g hg6
  · intro g hg6
    rw [x9]
    by_cases q : g < G
    · rw [zrw_in q]
      have := (zfs3.mp (hg g q 3 (by omega))).2
      exact zdg_of ⟨Int32.le_trans (by decide) this.1, this.2⟩
    · rw [zrw_out (by omega)]; exact c23 g hg6
  · rw [m0 13 (by decide) (by decide) (by decide) (by decide) (by decide) (by decide) (by decide), x0 32 (by decide) (by decide) (by decide) (by decide) (by decide) (by decide) (by decide) (by decide)]
    exact c26
  · rw [m0 14 (by decide) (by decide) (by decide) (by decide) (by decide) (by decide) (by decide), x0 33 (by decide) (by decide) (by decide) (by decide) (by decide) (by decide) (by decide) (by decide)]
    exact c27
  · rw [m0 15 (by decide) (by decide) (by decide) (by decide) (by decide) (by decide) (by decide), x0 34 (by decide) (by decide) (by decide) (by decide) (by decide) (by decide) (by decide) (by decide)]
    exact c28
  · rw [x0 32 (by decide) (by decide) (by decide) (by decide) (by decide) (by decide) (by decide) (by decide)]
    exact c29
  · refine zRf_fr hf (fun k hk => ⟨x0 _ ?_ ?_ ?_ ?_ ?_ ?_ ?_ ?_, x0 _ ?_ ?_ ?_ ?_ ?_ ?_ ?_ ?_⟩) (m0 1 (by decide) (by decide) (by decide) (by decide) (by decide) (by decide) (by decide)) (m0 2 (by decide) (by decide) (by decide) (by decide) (by decide) (by decide) (by decide)) (m0 3 (by decide) (by decide) (by decide) (by decide) (by decide) (by decide) (by decide))
    all_goals first
      | (unfold zsO; omega)
      | (unfold zsC; omega)
theorem zR_N {I J J' : zxI} (h : zR I J) (h' : zNf J J') : zR I J' := by
  obtain ⟨⟨G, W, hc⟩, hf⟩ := h
  exact ⟨⟨G, W, zRc_fr hc rfl rfl rfl rfl rfl rfl rfl rfl rfl rfl rfl (h'.2 0 (by decide) (by decide) (by decide)) (h'.2 1 (by decide) (by decide) (by decide)) (h'.2 5 (by decide) (by decide) (by decide)) (h'.2 6 (by decide) (by decide) (by decide)) (h'.2 7 (by decide) (by decide) (by decide)) (h'.2 8 (by decide) (by decide) (by decide)) (h'.2 9 (by decide) (by decide) (by decide)) (h'.2 25 (by decide) (by decide) (by decide)) (h'.1 4 (by decide) (by decide) (by decide)) (h'.1 5 (by decide) (by decide) (by decide)) (h'.1 6 (by decide) (by decide) (by decide)) (h'.1 7 (by decide) (by decide) (by decide)) (h'.1 13 (by decide) (by decide) (by decide)) (h'.1 14 (by decide) (by decide) (by decide)) (h'.1 15 (by decide) (by decide) (by decide))⟩, zRf_fr hf (fun k hk => ⟨rfl, rfl⟩) (h'.1 1 (by decide) (by decide) (by decide)) (h'.1 2 (by decide) (by decide) (by decide)) (h'.1 3 (by decide) (by decide) (by decide))⟩
theorem zop_mine {I J : zxI} (h : zR I J) (x1 x2 x3 x4 : Int32) : zP (fX6_mine x1 x2 x3 x4 I) (fX7_mine x1 x2 x3 x4 J) := by
  have h := zR_fault h 0
  unfold fX6_mine fX7_mine fX6_faulted fX7_fails
  generalize zxU I 0 10 0 = I at h ⊢
  generalize zxU J 0 0 0 = J at h ⊢
  simp only [zX_isS, zM_isS, zX_isL, zM_isL, zxB_s, zi_b]
  refine zP_ite (fun q => ?_) (fun _ => zP_ok h)
  refine zP_ite (fun q2 => ?_) (fun _ => zP_ok h)
  obtain ⟨k, hk, rfl⟩ := zq_ofL (n := 3) rfl q
  have hk4 : k < 4 := by omega
  obtain ⟨f, hf4, ef, eg, hz0⟩ := zfc h.2 hk4 x2 x3 x4
  rw [if_pos (zq_in hk4 (by decide)), zq_cl (show k < 2 ^ 31 by omega), ef, eg, zxB_s, zxB_s]
  by_cases qf : f = 0
  · subst qf
    obtain ⟨z1, n0, i, N, z2, e3, e4, z5, z6, z7⟩ := hz0 rfl
    subst e3
    subst e4
    have t0 : nI 0 = (0 : Int32) := rfl
    have a2 : (60 : Int32) * nI k + nI i = nI (60 * k + i) := by rw [show (60 : Int32) = nI 60 from rfl, pk_mul, nI_add]
    have hX : zcX I k i N (fun q => I (zsC k) (i + q)) := ⟨by omega, hk4, fun q _ => rfl⟩
    have hJ : zcM (zxU J 0 14 (nI (60 * k + i))) (60 * k + i) N (fun q => I (zsC k) (i + q)) := ⟨by omega, fun q hq => by
      rw [zxU_q (by decide), Nat.add_assoc]
      exact z7 (i + q) (by omega)⟩
    have f14 : zNf J (zxU J 0 14 (nI (60 * k + i))) := zNf_0 (Or.inl rfl)
    rw [if_pos t0, if_pos t0, a2, nI_add]
    rcases zff hX hJ zxU_s with ⟨W, G, J', w0, w1, w2, w3, w4, w5, w6, w7, w8, w9, w10, w11, w12, w13⟩ | ⟨a, J', y1, y2, y3, y4, y5⟩
    · have hd : ∀ g, g < G → ∃ b, b < 2 ∧ (fun q => I (zsC k) (i + q)) (1 + W + 5 * g + 4) - 48 = nI b := fun g hg' => zdg_2 (zfs4.mp (w12 g hg' 4 (by omega))).2
      obtain ⟨I2, a1, a2, a3, a4, a5, a6, a7, a8, a9, a10, a11, a12, a13⟩ := zX_make (c := fun q => I (zsC k) (i + q)) w1 w3 w2 w4 hX w6
      obtain ⟨J2, b1, b2, b3, b4, b5, b6, b7, b8, b9, b10, b11, b12, b13⟩ := zM_make (c := fun q => I (zsC k) (i + q)) w1 w3 w2 hd w9 w8 (fun w hw => (w11 w hw).2) w13
      have hN := zNf_t f14 w10
      rw [w5, w7, zxB_s, zxB_s, if_pos (by decide : (-9 : Int32) = -9), if_neg (by decide : ¬ (1 : Int32) = 0), a1, b1, zxV_s, zxV_s, a5, b4]
      have hq : ∀ q, q ≠ 0 → q ≠ 8 → q ≠ 9 → J' q = J q := hN.1
      refine zP_ok (zR_mine (N := N) (c := fun q => I (zsC k) (i + q)) h w0 w1 w2 w3 (fun w hw => (w11 w hw).1) w12 a2 a3 a4 a5 a6 a7 a8 a9 a10 a11 a12 a13 (fun q d0 d4 d5 d6 d7 d8 d9 => (b2 q d0 d4 d5 d6 d7).trans (hq q d0 d8 d9)) (fun k hk => (b3 k (by omega) (by omega) (by omega) (by omega) (by omega) (by omega)).trans (hN.2 k (by omega) (by omega) (by omega))) b4 b5 b6 b7 b8 b9 ?_ ?_ ?_ ?_)
      · rw [b10, hq 4 (by decide) (by decide) (by decide)]
      · rw [b11, hq 5 (by decide) (by decide) (by decide)]
      · rw [b12, hq 6 (by decide) (by decide) (by decide)]
      · rw [b13, hq 7 (by decide) (by decide) (by decide)]
    · have n9 : ¬ nI a = (-9 : Int32) := by
        have : ∀ a, a < 61 → ¬ nI a = (-9 : Int32) := by decide
        exact this a (by omega)
      have ea : nI (60 * k + i + a) - nI (60 * k + i) = nI a := by
        rw [pk_sub (by omega)]
        congr 1
        omega
      rw [y2, y3, zxB_s, zxB_s, if_neg n9, if_pos (by decide : (0 : Int32) = 0), y4, ea]
      exact zP_ok (zR_N h (zNf_t f14 y5))
  · have n0 : ¬ nI f = 0 := nI_ne0 (by omega) (by omega)
    rw [if_neg n0, if_neg n0]
    exact zP_ok (zR_fault h (nI f))
