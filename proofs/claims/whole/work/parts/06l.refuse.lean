/-! the calls that take pairs from a sheet -/
def zPr (I J : zxI) (k i G W p : Nat) : Prop := ∃ g w, g < G ∧ w < W ∧ I 36 p = nI g ∧ I 37 p = nI w ∧ J 3 (60 * k + i + 2 * p) = nI g ∧ J 3 (60 * k + i + 2 * p + 1) = nI w
def zPf (I0 I : zxI) : Prop := ∀ q, q ≠ 35 → q ≠ 36 → q ≠ 37 → I q = I0 q
theorem ztpL {I0 J : zxI} {k i n G W : Nat} (hcell : ∀ q, q < 60 → J 3 (60 * k + q) = I0 (zsC k) q) (g1 : I0 10 0 = nI G) (g2 : J 0 5 = nI G) (w1 : I0 10 1 = nI W) (w2 : J 0 6 = nI W) (h6 : G ≤ 6) (h4 : W ≤ 4) (hk : k < 4) (hi : i + 2 * n ≤ 60) (hn : n ≤ 20) : ∀ (m p f f' : Nat) (I : zxI), p + m = n → m < f → m < f' → zPf I0 I → (∀ p', p' < p → zPr I J k i G W p') →
    (∃ I', fX6_takePairs_L37 k f (nI i) (nI n) (nI p) I = some (-1, I') ∧ fX7_refusesPairs_L2 f' (nI (60 * k + i)) (nI n) (nI p) J = some (-1, J) ∧ zPf I0 I') ∨
    (∃ I', fX6_takePairs_L37 k f (nI i) (nI n) (nI p) I = some (0, I') ∧ fX7_refusesPairs_L2 f' (nI (60 * k + i)) (nI n) (nI p) J = some (0, J) ∧ zPf I0 I' ∧ I' 35 0 = nI n ∧ ∀ p', p' < n → zPr I' J k i G W p') := by
  intro m
  induction m with
  | zero =>
    intro p f f' I hp hf hf' hI hP
    obtain ⟨f, rfl⟩ : ∃ x, f = x + 1 := ⟨f - 1, by omega⟩
    obtain ⟨f', rfl⟩ : ∃ x, f' = x + 1 := ⟨f' - 1, by omega⟩
    have e : p = n := by omega
    subst e
    refine Or.inr ⟨zxU I 35 0 (nI p), ?_, ?_, ?_, zxU_s, ?_⟩
    · rw [fX6_takePairs_L37, if_pos (nI_le (Nat.le_refl _) (by omega))]
    · rw [fX7_refusesPairs_L2, if_pos (nI_le (Nat.le_refl _) (by omega))]
    · intro q h1 h2 h3
      rw [zxU_q h1]; exact hI q h1 h2 h3
    · intro p' hp'
      obtain ⟨g, w, hg, hw, e1, e2, e3, e4⟩ := hP p' hp'
      exact ⟨g, w, hg, hw, by rw [zxU_q (by decide)]; exact e1, by rw [zxU_q (by decide)]; exact e2, e3, e4⟩
  | succ m ih =>
    intro p f f' I hp hf hf' hI hP
    obtain ⟨f, rfl⟩ : ∃ x, f = x + 1 := ⟨f - 1, by omega⟩
    obtain ⟨f', rfl⟩ : ∃ x, f' = x + 1 := ⟨f' - 1, by omega⟩
    have a1 : nI i + (2 : Int32) * nI p = nI (i + 2 * p) := by rw [show (2 : Int32) = nI 2 from rfl, pk_mul, nI_add]
    have a2 : nI (60 * k + i) + (2 : Int32) * nI p = nI (60 * k + i + 2 * p) := by rw [show (2 : Int32) = nI 2 from rfl, pk_mul, nI_add]
    have r10 : I 10 = I0 10 := hI 10 (by omega) (by omega) (by omega)
    have rC : I (zsC k) = I0 (zsC k) := hI (zsC k) (by unfold zsC; omega) (by unfold zsC; omega) (by unfold zsC; omega)
    have v1 : J 3 (60 * k + i + 2 * p) = I0 (zsC k) (i + 2 * p) := by rw [← hcell (i + 2 * p) (by omega), show 60 * k + (i + 2 * p) = 60 * k + i + 2 * p by omega]
    have v2 : J 3 (60 * k + i + 2 * p + 1) = I0 (zsC k) (i + 2 * p + 1) := by rw [← hcell (i + 2 * p + 1) (by omega), show 60 * k + (i + 2 * p + 1) = 60 * k + i + 2 * p + 1 by omega]
    rw [fX6_takePairs_L37, fX7_refusesPairs_L2, if_neg (nI_ge (by omega) (by omega)), if_neg (nI_ge (by omega) (by omega)), a1, a2, nI_1, nI_1, nI_1]
    simp only [zq_in (show i + 2 * p < 60 by omega) (show 60 < 2 ^ 31 by decide), zq_in (show i + 2 * p + 1 < 60 by omega) (show 60 < 2 ^ 31 by decide), zq_in (show 60 * k + i + 2 * p < 240 by omega) (show 240 < 2 ^ 31 by decide), zq_in (show 60 * k + i + 2 * p + 1 < 240 by omega) (show 240 < 2 ^ 31 by decide), zq_in (show p < 20 by omega) (show 20 < 2 ^ 31 by decide), if_true, zq_cl (show i + 2 * p < 2 ^ 31 by omega), zq_cl (show i + 2 * p + 1 < 2 ^ 31 by omega), zq_cl (show 60 * k + i + 2 * p < 2 ^ 31 by omega), zq_cl (show 60 * k + i + 2 * p + 1 < 2 ^ 31 by omega), zq_cl (show p < 2 ^ 31 by omega), zX_isG, zM_isG, zX_isW, zM_isW, zxB_s, zi_b, r10, rC, v1, v2, g1, g2, w1, w2]
    by_cases q : 0 ≤ I0 (zsC k) (i + 2 * p) ∧ I0 (zsC k) (i + 2 * p) < nI G
    · rw [if_pos q, if_pos q]
      by_cases q2 : 0 ≤ I0 (zsC k) (i + 2 * p + 1) ∧ I0 (zsC k) (i + 2 * p + 1) < nI W
      · rw [if_pos q2, if_pos q2]
        obtain ⟨g, hg, eg⟩ := zq_of (by omega) q
        obtain ⟨w, hw, ew⟩ := zq_of (by omega) q2
        refine ih (p + 1) f f' _ (by omega) (by omega) (by omega) ?_ ?_
        · intro q h1 h2 h3
          rw [zxU_q h3, zxU_q h2]; exact hI q h1 h2 h3
        · intro p' hp'
          by_cases e : p' = p
          · subst e
            exact ⟨g, w, hg, hw, by rw [zxU_q (by decide), zxU_s]; exact eg, by rw [zxU_s]; exact ew, by rw [v1]; exact eg, by rw [v2]; exact ew⟩
          · obtain ⟨g', w', hg', hw', e1, e2, e3, e4⟩ := hP p' (by omega)
            exact ⟨g', w', hg', hw', by rw [zxU_q (by decide), zxU_k e]; exact e1, by rw [zxU_k e, zxU_q (by decide)]; exact e2, e3, e4⟩
      · rw [if_neg q2, if_neg q2]
        exact Or.inl ⟨I, rfl, rfl, hI⟩
    · rw [if_neg q, if_neg q]
      exact Or.inl ⟨I, rfl, rfl, hI⟩
theorem zPf_X {I0 I : zxI} (h : zPf I0 I) : zXf I0 I := fun q hq => h q (by omega) (by omega) (by omega)
theorem zM_ref (x1 x2 x3 x4 x5 x6 : Int32) (J : zxI) : fX7_refuses x1 x2 x3 x4 x5 x6 J = (if 0 ≤ x1 ∧ x1 ≤ 3 then (if 0 ≤ x2 ∧ x2 ≤ 2 then (if 0 ≤ x4 ∧ x4 ≤ x5 then (if x6 = 0 then some (-2, J) else zxB (fX7_against x1 x2 x3 (2 * x4) J) (fun r I => if r = 0 then (if I 0 5 = 0 then some (-3, I) else zxB (fX7_refusesPairs (60 * x1 + x3) x4 I) (fun r I => some (r, I))) else zxB (fX7_fails r I) (fun r I => some (r, I)))) else some (-2, J)) else some (-2, J)) else some (-1, J)) := by
  unfold fX7_refuses
  simp only [zM_isS, zM_isL, zM_wi, zxB_s, zi_b]
/-- what both sides know when the pairs stand -/
def zPs (I J I' : zxI) (k i n G W : Nat) : Prop := zRc I J G W ∧ 0 < G ∧ zR I' J ∧ zRc I' J G W ∧ i + 2 * n ≤ 60 ∧ zPf I I' ∧ I' 35 0 = nI n ∧ ∀ p, p < n → zPr I' J k i G W p
theorem zfN : ∀ f, f < 5 → ¬ ((-10 : Int32) - nI f) = 0 := by decide
theorem zref0 {I J : zxI} (h : zR I J) (x2 x3 : Int32) {k n : Nat} (hk4 : k < 4) (hn : n ≤ 20) : (∃ r I' J', r ≠ 0 ∧ fX6_takePairs k x2 x3 (nI n) I = some (r, I') ∧ zxB (fX7_against (nI k) x2 x3 (2 * nI n) J) (fun r I => if r = 0 then (if I 0 5 = 0 then some (-3, I) else zxB (fX7_refusesPairs (60 * nI k + x3) (nI n) I) (fun r I => some (r, I))) else zxB (fX7_fails r I) (fun r I => some (r, I))) = some (r, J') ∧ zR I' J') ∨
    (∃ i G W I', x3 = nI i ∧ fX6_takePairs k x2 x3 (nI n) I = some (0, I') ∧ zxB (fX7_against (nI k) x2 x3 (2 * nI n) J) (fun r I => if r = 0 then (if I 0 5 = 0 then some (-3, I) else zxB (fX7_refusesPairs (60 * nI k + x3) (nI n) I) (fun r I => some (r, I))) else zxB (fX7_fails r I) (fun r I => some (r, I))) = some (0, J) ∧ zPs I J I' k i n G W) := by
  obtain ⟨⟨G, W, hc⟩, hf⟩ := id h
  obtain ⟨f, hf4, ef, eg, hz0⟩ := zfc hf hk4 x2 x3 ((2 : Int32) * nI n)
  unfold fX6_takePairs
  rw [eg, zxB_s, ef, zxB_s]
  by_cases q6 : f = 0
  · subst q6
    obtain ⟨z1, n0, i, m, z2, e3, z4, z5, z6, z7⟩ := hz0 rfl
    subst e3
    have em : m = 2 * n := by
      have e : (2 : Int32) * nI n = nI (2 * n) := by rw [show (2 : Int32) = nI 2 from rfl, pk_mul]
      rw [e] at z4
      exact ((nI_eq (by omega) (by omega)).mp z4).symm
    subst em
    have a2 : (60 : Int32) * nI k + nI i = nI (60 * k + i) := by rw [show (60 : Int32) = nI 60 from rfl, pk_mul, nI_add]
    have t0 : nI 0 = (0 : Int32) := rfl
    rw [if_pos t0, if_pos t0, a2]
    unfold fX6_hasMine
    obtain ⟨c1, c2, c3, c4, c5, c6, c7, c8, -⟩ := id hc
    rw [c1, c2]
    by_cases q7 : G = 0
    · subst q7
      have t1 : nI 0 ≤ (0 : Int32) := by decide
      rw [if_pos t1, if_pos t0, zxB_s]
      exact Or.inl ⟨-3, I, J, by decide, rfl, rfl, h⟩
    · have t2 : ¬ nI G ≤ 0 := nI_nle (by omega) (by omega)
      have t3 : ¬ nI G = 0 := nI_ne0 (by omega) (by omega)
      have t4 : ¬ (1 : Int32) = 0 := by decide
      rw [if_neg t2, if_neg t3, zxB_s, if_neg t4]
      unfold fX7_refusesPairs
      rcases ztpL (i := i) (n := n) z7 c1 c2 c5 c6 c4 c7 hk4 (by omega) (by omega) n 0 1000 1000 I (by omega) (by omega) (by omega) (fun q _ _ _ => rfl) (fun p hp => absurd hp (by omega)) with ⟨I', y1, y2, y3⟩ | ⟨I', y1, y2, y3, y4, y5⟩
      · rw [t0] at y1 y2
        exact Or.inl ⟨-1, I', J, by decide, y1, by rw [y2, zxB_s], zR_f h (zPf_X y3) zMf_r⟩
      · rw [t0] at y1 y2
        have hr := zR_f h (zPf_X y3) (zMf_r (J := J))
        have hXf := zPf_X y3
        refine Or.inr ⟨i, G, W, I', rfl, y1, by rw [y2, zxB_s], hc, by omega, hr, ?_, by omega, y3, y4, y5⟩
        exact zRc_fr hc (hXf 0 (by omega)) (hXf 10 (by omega)) (hXf 11 (by omega)) (hXf 12 (by omega)) (hXf 13 (by omega)) (hXf _ (by unfold zaO; omega)) (hXf _ (by unfold zaF; omega)) (hXf 31 (by omega)) (hXf 32 (by omega)) (hXf 33 (by omega)) (hXf 34 (by omega)) rfl rfl rfl rfl rfl rfl rfl rfl rfl rfl rfl rfl rfl rfl rfl
  · have n0 : ¬ nI f = 0 := nI_ne0 (by omega) (by omega)
    rw [if_neg n0, if_neg n0]
    exact Or.inl ⟨-10 - nI f, _, _, zfN f (by omega), rfl, rfl, zR_fault h (nI f)⟩
theorem zref {I J : zxI} (h : zR I J) (x1 x2 x3 x4 : Int32) {lim : Nat} (hl : lim ≤ 20) (b : Prop) [Decidable b] {K : Int32 → zxI → Option (Int32 × zxI)} {KX : zxI → Option (Int32 × zxI)} (hK : ∀ r J', r ≠ 0 → K r J' = some (r, J')) (hz : ∀ k n i G W I', k < 4 → n ≤ lim → x1 = nI k → x4 = nI n → x3 = nI i → b → zPs I J I' k i n G W → zP (KX I') (K 0 J)) :
    zP (if 0 ≤ x1 ∧ x1 ≤ 3 then (if 0 ≤ x2 ∧ x2 ≤ 2 then (if x4 < 0 then some (-2, I) else if nI lim < x4 then some (-2, I) else if b then (if zxIn x1 4 = true then zxB (fX6_takePairs x1.toNatClampNeg x2 x3 x4 I) (fun r I' => if r = 0 then KX I' else some (r, I')) else none) else some (-2, I)) else some (-2, I)) else some (-1, I)) (zxB (fX7_refuses x1 x2 x3 x4 (nI lim) (if b then 1 else 0) J) K) := by
  have fin : ∀ (r : Int32), r ≠ 0 → zP (some (r, I)) (zxB (some (r, J)) K) := fun r hr => by rw [zxB_s, hK r J hr]; exact zP_ok h
  rw [zM_ref]
  by_cases q1 : 0 ≤ x1 ∧ x1 ≤ 3
  · rw [if_pos q1, if_pos q1]
    by_cases q2 : 0 ≤ x2 ∧ x2 ≤ 2
    · rw [if_pos q2, if_pos q2]
      by_cases q3 : x4 < 0
      · rw [if_pos q3, if_neg (fun z => absurd z.1 (Int32.not_le.mpr q3))]
        exact fin _ (by decide)
      · rw [if_neg q3]
        by_cases q4 : nI lim < x4
        · rw [if_pos q4, if_neg (fun z => absurd z.2 (Int32.not_le.mpr q4))]
          exact fin _ (by decide)
        · rw [if_neg q4, if_pos (And.intro (Int32.not_lt.mp q3) (Int32.not_lt.mp q4))]
          by_cases q5 : b
          · rw [if_pos q5, if_pos q5, if_neg (by decide : ¬ (1 : Int32) = 0)]
            obtain ⟨k, hk, e1⟩ := zq_ofL (n := 3) rfl q1
            obtain ⟨n, hn, e4⟩ := zq_ofL (x := x4) (M := nI lim) (n := lim) (nI_toInt (by omega)) ⟨Int32.not_lt.mp q3, Int32.not_lt.mp q4⟩
            subst e1
            subst e4
            have hk4 : k < 4 := by omega
            rw [if_pos (zq_in hk4 (by decide)), zq_cl (show k < 2 ^ 31 by omega)]
            rcases zref0 h x2 x3 hk4 (show n ≤ 20 by omega) with ⟨r, I', J', hr, y1, y2, y3⟩ | ⟨i, G, W, I', e3, y1, y2, y3⟩
            · rw [y1, y2, zxB_s, zxB_s, if_neg hr, hK r J' hr]
              exact zP_ok y3
            · rw [y1, y2, zxB_s, zxB_s, if_pos (rfl : (0 : Int32) = 0)]
              exact hz k n i G W I' hk4 hn rfl rfl e3 q5 y3
          · rw [if_neg q5, if_neg q5, if_pos (rfl : (0 : Int32) = 0)]
            exact fin _ (by decide)
    · rw [if_neg q2, if_neg q2]
      exact fin _ (by decide)
  · rw [if_neg q1, if_neg q1]
    exact fin _ (by decide)
