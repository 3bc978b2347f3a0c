/-! mine -/
def zGd (c : Nat → Int32) (W g : Nat) (r : Nat → Int32) : Prop := r (4 * g) = zkl (c (1 + W + 5 * g + 1)) ∧ r (4 * g + 1) = c (1 + W + 5 * g + 2) - 48 ∧ r (4 * g + 2) = c (1 + W + 5 * g + 3) - 48 ∧ r (4 * g + 3) = c (1 + W + 5 * g + 4) - 48
theorem zgl {I : zxI} {k i N W B : Nat} {c : Nat → Int32} (hX : zcX I k i N c) : ∀ (m g F f' : Nat) (J : zxI), g + m = 6 → m < F → m < f' → 1 + W + 5 * g ≤ N → zcM J B N c → J 0 14 = nI (B + (1 + W + 5 * g)) → J 0 16 = nI g → (∀ g', g' < g → ∀ s, s < 5 → zfs c N (1 + W + 5 * g') s) → (∀ g', g' < g → zGd c W g' (J 9)) →
    (∃ G J', 2 ≤ G ∧ G ≤ 6 ∧ N = 1 + W + 5 * G ∧ fX6_firstFaultOfText_L35 k F (nI i) (nI N) (nI (1 + W + 5 * g)) (nI g) I = some (-9, I) ∧ fX7_readMine_L25 f' (nI (B + N)) J = some (1, J') ∧ J' 0 16 = nI G ∧ J' 0 15 = J 0 15 ∧ J' 8 = J 8 ∧ zNf J J' ∧ (∀ g', g' < G → ∀ s, s < 5 → zfs c N (1 + W + 5 * g') s) ∧ ∀ g', g' < G → zGd c W g' (J' 9)) ∨
    (∃ a J', a ≤ N ∧ fX6_firstFaultOfText_L35 k F (nI i) (nI N) (nI (1 + W + 5 * g)) (nI g) I = some (nI a, I) ∧ fX7_readMine_L25 f' (nI (B + N)) J = some (0, J') ∧ J' 0 14 = nI (B + a) ∧ zNf J J') := by
  have hi := hX.1
  intro m
  induction m with
  | zero =>
    intro g F f' J hg hF hf' hb hJ h14 h16 hP hD
    obtain ⟨F, rfl⟩ : ∃ x, F = x + 1 := ⟨F - 1, by omega⟩
    obtain ⟨f', rfl⟩ : ∃ x, f' = x + 1 := ⟨f' - 1, by omega⟩
    have e : g = 6 := by omega
    subst e
    have hB := hJ.1
    rw [fX6_firstFaultOfText_L35, fX7_readMine_L25, h16, h14, if_pos (by decide : (6 : Int32) ≤ nI 6), if_neg (by decide : ¬ nI 6 < (2 : Int32)), if_pos (by decide : (6 : Int32) ≤ nI 6)]
    by_cases q : 1 + W + 5 * 6 = N
    · have t1 : nI (1 + W + 5 * 6) = nI N := by rw [q]
      have t2 : nI (B + (1 + W + 5 * 6)) = nI (B + N) := by rw [q]
      rw [if_pos t1, if_pos t2]
      exact Or.inl ⟨6, J, by omega, by omega, q.symm, rfl, rfl, h16, rfl, rfl, zNf_r, hP, hD⟩
    · have t1 : ¬ nI (1 + W + 5 * 6) = nI N := fun z => q ((nI_eq (by omega) (by omega)).mp z)
      have t2 : ¬ nI (B + (1 + W + 5 * 6)) = nI (B + N) := fun z => q (by have := (nI_eq (by omega) (by omega)).mp z; omega)
      rw [if_neg t1, if_neg t2]
      exact Or.inr ⟨1 + W + 5 * 6, J, hb, rfl, rfl, h14, zNf_r⟩
  | succ m ih =>
    intro g F f' J hg hF hf' hb hJ h14 h16 hP hD
    obtain ⟨F, rfl⟩ : ∃ x, F = x + 1 := ⟨F - 1, by omega⟩
    obtain ⟨f', rfl⟩ : ∃ x, f' = x + 1 := ⟨f' - 1, by omega⟩
    have hB := hJ.1
    have go : (∃ G J', 2 ≤ G ∧ G ≤ 6 ∧ N = 1 + W + 5 * G ∧ fX6_firstFaultOfText_L60 (fun a0 a1 a2 a3 I => fX6_firstFaultOfText_L35 k F a0 a1 a2 a3 I) k 1000 (nI i) (nI N) (nI (1 + W + 5 * g)) (nI g) 0 I = some (-9, I) ∧ zxB (fX7_isSign (nI (B + N)) 59 J) (fun r_6 I_6 => if r_6 = 0 then some (0, I_6) else zxB (fX7_readGallery (nI (B + N)) I_6) (fun r_8 I_8 => if r_8 = 0 then some (0, I_8) else fX7_readMine_L25 f' (nI (B + N)) I_8)) = some (1, J') ∧ J' 0 16 = nI G ∧ J' 0 15 = J 0 15 ∧ J' 8 = J 8 ∧ zNf J J' ∧ (∀ g', g' < G → ∀ s, s < 5 → zfs c N (1 + W + 5 * g') s) ∧ ∀ g', g' < G → zGd c W g' (J' 9)) ∨
    (∃ a J', a ≤ N ∧ fX6_firstFaultOfText_L60 (fun a0 a1 a2 a3 I => fX6_firstFaultOfText_L35 k F a0 a1 a2 a3 I) k 1000 (nI i) (nI N) (nI (1 + W + 5 * g)) (nI g) 0 I = some (nI a, I) ∧ zxB (fX7_isSign (nI (B + N)) 59 J) (fun r_6 I_6 => if r_6 = 0 then some (0, I_6) else zxB (fX7_readGallery (nI (B + N)) I_6) (fun r_8 I_8 => if r_8 = 0 then some (0, I_8) else fX7_readMine_L25 f' (nI (B + N)) I_8)) = some (0, J') ∧ J' 0 14 = nI (B + a) ∧ zNf J J') := by
      rcases zM_gal (KK := fun I => fX7_readMine_L25 f' (nI (B + N)) I) hJ h14 h16 (by omega) hb with ⟨s, J', y1, y2, y3, y4, y5, y6, y7⟩ | ⟨J', y1, y2, y3, y4, y5, y6, y7, y8, y9, y10, y11, y12⟩
      · exact Or.inr ⟨1 + W + 5 * g + s, J', y6, zX_galF hX y6 y1 y3 y2 s 0 1000 (by omega) (by omega), y4, y5, y7⟩
      · have hT := zX_galT (kk := fun a0 a1 a2 a3 I => fX6_firstFaultOfText_L35 k F a0 a1 a2 a3 I) (v5 := nI g) hX y1 5 0 1000 (by omega) (by omega)
        rw [nI_1] at hT
        have h4 := (y1 4 (by omega)).1
        have e5 : 1 + W + 5 * g + 5 = 1 + W + 5 * (g + 1) := by omega
        rw [e5] at hT y3
        have hP' : ∀ g', g' < g + 1 → ∀ s, s < 5 → zfs c N (1 + W + 5 * g') s := fun g' hg' s hs => by
          by_cases e : g' = g
          · subst e
            exact y1 s hs
          · exact hP g' (by omega) s hs
        have hD' : ∀ g', g' < g + 1 → zGd c W g' (J' 9) := fun g' hg' => by
          by_cases e : g' = g
          · subst e
            exact ⟨y8, y9, y10, y11⟩
          · obtain ⟨d1, d2, d3, d4⟩ := hD g' (by omega)
            exact ⟨by rw [y12 _ (by omega)]; exact d1, by rw [y12 _ (by omega)]; exact d2, by rw [y12 _ (by omega)]; exact d3, by rw [y12 _ (by omega)]; exact d4⟩
        rcases ih (g + 1) F f' J' (by omega) (by omega) (by omega) (by omega) (zcM_f hJ y7) y3 y4 hP' hD' with ⟨G, J'', z1, z2, z3, z4, z5, z6, z7, z8, z9, z10, z11⟩ | ⟨a, J'', z1, z2, z3, z4, z5⟩
        · exact Or.inl ⟨G, J'', z1, z2, z3, hT.trans z4, y2.trans z5, z6, z7.trans y5, z8.trans y6, zNf_t y7 z9, z10, z11⟩
        · exact Or.inr ⟨a, J'', z1, hT.trans z2, y2.trans z3, z4, zNf_t y7 z5⟩
    have t6 : ¬ (6 : Int32) ≤ nI g := nI_ge (b := 6) (by omega) (by decide)
    rw [fX6_firstFaultOfText_L35, fX7_readMine_L25, h16, h14, if_neg t6, if_neg t6]
    by_cases g2 : g < 2
    · have t2 : nI g < (2 : Int32) := nI_lt (b := 2) g2 (by decide)
      rw [if_pos t2, if_pos t2]
      by_cases q : nI (1 + W + 5 * g) = nI N
      · rw [if_pos q]
        exact go
      · rw [if_neg q]
        exact go
    · have t2 : ¬ nI g < (2 : Int32) := nI_nlt (a := g) (b := 2) (by omega) (by omega)
      rw [if_neg t2, if_neg t2]
      by_cases q : 1 + W + 5 * g = N
      · have t1 : nI (1 + W + 5 * g) = nI N := by rw [q]
        have t3 : nI (B + N) ≤ nI (B + (1 + W + 5 * g)) := nI_le (by omega) (by omega)
        have t4 : nI (B + (1 + W + 5 * g)) = nI (B + N) := by rw [q]
        rw [if_pos t1, if_pos t3, if_pos t4]
        exact Or.inl ⟨g, J, by omega, by omega, q.symm, rfl, rfl, h16, rfl, rfl, zNf_r, hP, hD⟩
      · have t1 : ¬ nI (1 + W + 5 * g) = nI N := fun z => q ((nI_eq (by omega) (by omega)).mp z)
        have t3 : ¬ nI (B + N) ≤ nI (B + (1 + W + 5 * g)) := nI_ge (by omega) (by omega)
        rw [if_neg t1, if_neg t3]
        exact go
/-- the first fault of a text, both sides -/
theorem zff {I J : zxI} {k i N B : Nat} {c : Nat → Int32} (hX : zcX I k i N c) (hJ : zcM J B N c) (h14 : J 0 14 = nI B) :
    (∃ W G J', 0 < W ∧ W ≤ 4 ∧ 2 ≤ G ∧ G ≤ 6 ∧ N = 1 + W + 5 * G ∧ fX6_firstFaultOfText k (nI i) (nI N) I = some (-9, I) ∧ fX6_wordsOfText k (nI i) (nI N) I = some (nI W, I) ∧ fX7_readMine (nI (B + N)) J = some (1, J') ∧ J' 0 16 = nI G ∧ J' 0 15 = nI W ∧ zNf J J' ∧ (∀ w, w < W → (48 ≤ c (1 + w) ∧ c (1 + w) ≤ 57) ∧ J' 8 w = c (1 + w) - 48) ∧ (∀ g', g' < G → ∀ s, s < 5 → zfs c N (1 + W + 5 * g') s) ∧ ∀ g', g' < G → zGd c W g' (J' 9)) ∨
    (∃ a J', a ≤ N ∧ fX6_firstFaultOfText k (nI i) (nI N) I = some (nI a, I) ∧ fX7_readMine (nI (B + N)) J = some (0, J') ∧ J' 0 14 = nI (B + a) ∧ zNf J J') := by
  obtain ⟨hi, hk, hc⟩ := id hX
  have hB := hJ.1
  unfold fX6_firstFaultOfText fX7_readMine
  have f0 : zNf J (zxU J 0 16 0) := zNf_0 (Or.inr (Or.inr rfl))
  have a0 : (zxU J 0 16 0) 0 14 = nI (B + 0) := by rw [zxU_k (by decide)]; exact h14
  rw [zM_sg (zcM_f hJ f0) a0 (Nat.zero_le _)]
  by_cases q0 : N = 0
  · subst q0
    rw [if_pos (by decide : nI 0 = (0 : Int32)), if_neg (show ¬ (0 < 0 ∧ c 0 = 109) from fun z => absurd z.1 (by omega)), zxB_s, if_pos (by decide : (0 : Int32) = 0)]
    exact Or.inr ⟨0, _, Nat.le_refl _, rfl, rfl, a0, f0⟩
  · have n0 : ¬ nI N = 0 := nI_ne0 (by omega) (by omega)
    have ci : I (zsC k) i = c 0 := by
      have := hc 0 (by omega)
      rw [Nat.add_zero] at this
      exact this
    rw [if_neg n0, if_pos (zq_in (show i < 60 by omega) (by decide)), zq_cl (show i < 2 ^ 31 by omega), ci]
    by_cases q1 : c 0 = 109
    · rw [if_pos q1, if_pos (And.intro (show 0 < N by omega) q1), zxB_s, if_neg (by decide : ¬ (1 : Int32) = 0)]
      obtain ⟨W, w1, -, w2, w3, w4⟩ := zX_wdL hX 4 0 1000 (by omega) (by omega) (fun w' hw' => absurd hw' (by omega))
      unfold fX6_wordsOfText fX7_readTheWords
      have f1 : zNf J (zxU (zxU (zxU J 0 16 0) 0 14 (nI (B + 0 + 1))) 0 15 0) := zNf_t f0 (zNf_t (zNf_0 (Or.inl rfl)) (zNf_0 (Or.inr (Or.inl rfl))))
      obtain ⟨J2, y1, y2, y3, y4, y5, y6⟩ := zM_wdL (c := c) w1 w3 w4 (by omega) W 0 1000 (zxU (zxU (zxU J 0 16 0) 0 14 (nI (B + 0 + 1))) 0 15 0) (by omega) (by omega) (zcM_f hJ f1) (by rw [zxU_k (by decide), zxU_s]) zxU_s (fun w' hw' => absurd hw' (by omega))
      rw [show nI 0 = (0 : Int32) from rfl] at w2
      rw [w2, zxB_s, y1, zxB_s]
      by_cases q2 : W = 0
      · subst q2
        rw [if_pos (by decide : nI 0 = (0 : Int32)), if_pos rfl, if_pos (by decide : (0 : Int32) = 0)]
        exact Or.inr ⟨1, J2, by omega, rfl, rfl, y3, zNf_t f1 y2⟩
      · have n1 : ¬ nI W = 0 := nI_ne0 (by omega) (by omega)
        rw [if_neg n1, if_neg q2, if_neg (by decide : ¬ (1 : Int32) = 0)]
        have e1 : (1 : Int32) + nI W = nI (1 + W + 5 * 0) := by rw [show (1 : Int32) = nI 1 from rfl, nI_add]; rfl
        have hW := w3 (W - 1) (by omega)
        have e16 : J2 0 16 = nI 0 := by rw [y5, zxU_k (by decide), zxU_k (by decide), zxU_s]; rfl
        have f2 := zNf_t f1 y2
        rcases zgl (W := W) (B := B) hX 6 0 1000 1000 J2 (by omega) (by omega) (by omega) (by omega) (zcM_f hJ f2) y3 e16 (fun g' hg' => absurd hg' (by omega)) (fun g' hg' => absurd hg' (by omega)) with ⟨G, J3, z1, z2, z3, z4, z5, z6, z7, z8, z9, z10, z11⟩ | ⟨a, J3, z1, z2, z3, z4, z5⟩
        · refine Or.inl ⟨W, G, J3, by omega, w1, z1, z2, z3, ?_, rfl, z5, z6, z7.trans y4, zNf_t f2 z9, fun w hw => ⟨(w3 w hw).2, by rw [z8]; exact y6 w hw⟩, z10, z11⟩
          rw [e1]
          exact z4
        · refine Or.inr ⟨a, J3, z1, ?_, z3, z4, zNf_t f2 z5⟩
          rw [e1]
          exact z2
    · rw [if_neg q1, if_neg (fun z => q1 z.2), zxB_s, if_pos (by decide : (0 : Int32) = 0)]
      exact Or.inr ⟨0, _, Nat.zero_le _, rfl, rfl, a0, f0⟩
