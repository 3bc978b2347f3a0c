/-! bodies, readings -/
theorem zR_leave {I J : zxI} (h : zR I J) (b : Int32) : zR (zxU I 0 9 (31 * I 0 9 + b)) (zxU J 0 1 (31 * J 0 1 + b)) := by
  obtain ⟨⟨G, W, c1, c2, c3, c4, c5, c6, c7, c8, c9, c10, -⟩, hf⟩ := id h
  rw [c10]
  exact zR_trail h _
theorem zop_tell {I J : zxI} (h : zR I J) (x1 : Int32) : zP (fX6_tell x1 I) (fX7_tell x1 J) := by
  obtain ⟨⟨G, W, c1, c2, c3, c4, c5, c6, c7, c8, c9, c10, c11, c12, c13, c14, c15, c16, c17, c18, c19, -⟩, hf⟩ := id h
  unfold fX6_tell fX7_tell fX6_brightBody fX6_greenBody fX6_greyBody fX6_leave fX7_begins
  simp only [zX_isG, zM_isG, zxB_s, zxV_s, zi_b, c1, c2]
  refine zP_ite (fun q => ?_) (fun _ => zP_ok h)
  obtain ⟨g, hg, rfl⟩ := zq_of (by omega) q
  have n13 : ∀ (I : zxI) (v : Int32), zxU I 0 9 v 13 = I 13 := fun I v => zxU_q (by decide)
  simp only [if_true, zq_in (show g < 6 by omega) (show 6 < 2 ^ 31 by decide), zq_cl (show g < 2 ^ 31 by omega), c17, n13, c19, zxB_s]
  refine zP_ite (fun _ => ?_) (fun _ => zP_ite (fun _ => ?_) (fun _ => ?_))
  · exact zP_ok (zR_leave (zR_leave h 2) 1)
  · rw [show I 13 g + 100 + I 13 g = 2 * I 13 g + 100 by grind]
    exact zP_ok (zR_leave (zR_leave (zR_leave (zR_leave h 3) 2) 1) 1)
  · exact zP_ok (zR_leave h 1)
theorem zop_sign {I J : zxI} (h : zR I J) (x1 : Int32) : zP (fX6_sign x1 I) (fX7_sign x1 J) := by
  obtain ⟨⟨G, W, c1, c2, c3, c4, c5, c6, c7, c8, c9, c10, c11, c12, c13, c14, c15, c16, c17, c18, c19, -⟩, hf⟩ := id h
  unfold fX6_sign fX7_sign fX6_brightSignature fX6_lentSignature fX6_leave fX7_begins
  simp only [zX_isG, zM_isG, zxB_s, zxV_s, zi_b, c1, c2]
  refine zP_ite (fun q => ?_) (fun _ => zP_ok h)
  obtain ⟨g, hg, rfl⟩ := zq_of (by omega) q
  have n5 : ∀ (J : zxI) (v : Int32), zxU J 0 1 v 5 = J 5 := fun J v => zxU_q (by decide)
  simp only [if_true, zq_in (show g < 6 by omega) (show 6 < 2 ^ 31 by decide), zq_cl (show g < 2 ^ 31 by omega), c17, n5, zxB_s]
  refine zP_ite (fun e => ?_) (fun e => ?_)
  · rw [if_pos e]
    exact zP_ok (zR_leave h 5)
  · rw [if_neg e]
    exact zP_ok (zR_leave h 4)
theorem zop_reading {I J : zxI} (h : zR I J) (x1 x2 x3 : Int32) : zP (fX6_reading x1 x2 x3 I) (fX7_reading x1 x2 x3 J) := by
  obtain ⟨⟨G, W, c1, c2, c3, c4, c5, c6, c7, c8, c9, c10, c11, c12, c13, c14, c15, c16, c17, c18, c19, c20, c21, c22, c23, c24, ⟨c, hc, ec⟩, -⟩, hf⟩ := id h
  unfold fX6_reading fX7_reading fX3_write
  simp only [zX_isG, zM_isG, zX_isF, zM_wi, zxB_s, zi_b, c1, c2]
  refine zP_ite (fun q => ?_) (fun _ => zP_ok h)
  refine zP_ite (fun q2 => ?_) (fun _ => zP_ok h)
  obtain ⟨g, hg, rfl⟩ := zq_of (by omega) q
  simp (disch := decide) only [zxU_q, zxU_k, zxU_s, c24, ec]
  have key : (0 ≤ x3 ∧ x3 ≤ 1) → zP (if nI c < 8 then zxB (if zxIn (nI c) 8 = true then some (nI c, zxU (zxU (zxU (zxU I 32 (nI c).toNatClampNeg (nI g)) 33 (nI c).toNatClampNeg x2) 34 (nI c).toNatClampNeg x3) 31 0 (nI c + 1)) else none) (fun r_7 I_7 => some (r_7, I_7)) else some (-4, I)) (if nI c = 8 then some (-4, J) else if zxIn (nI c) 8 = true then if zxIn (nI c) 8 = true then if zxIn (nI c) 8 = true then some (nI c + 1 - 1, zxU (zxU (zxU (zxU J 13 (nI c).toNatClampNeg (nI g)) 14 (nI c).toNatClampNeg x2) 15 (nI c).toNatClampNeg x3) 0 25 (nI c + 1)) else none else none else none) := by
    intro _
    by_cases e8 : c = 8
    · subst e8
      exact zP_ok h
    · have hc8 : c < 8 := by omega
      have l8 : nI c < 8 := nI_lt (b := 8) hc8 (by decide)
      have n8 : ¬ nI c = 8 := fun z => e8 ((nI_eq (b := 8) (by omega) (by decide)).mp z)
      simp only [if_pos l8, if_neg n8, zq_in hc8 (show 8 < 2 ^ 31 by decide), if_true, zxB_s, zq_cl (show c < 2 ^ 31 by omega), nI_1, nI_pred]
      simp only [zSR_U (q := 32), zSR_U (q := 33), zSR_U (q := 34), zSR_U (q := 13), zSR_U (q := 14), zSR_U (q := 15)]
      have := zR_reading h (c := c) (g := g) (x2 := x2) (x3 := x3) (by omega) (by omega)
      simp (disch := decide) only [zSR_n]
      exact zP_ok this
  refine zP_l (fun q3 => ?_) (fun q3 => zP_l (fun q4 => ?_) (fun q4 => ?_))
  · subst q3
    rw [if_pos (by decide : (0 : Int32) ≤ 0 ∧ (0 : Int32) ≤ 1)]
    exact key (by decide)
  · subst q4
    rw [if_pos (by decide : (0 : Int32) ≤ 1 ∧ (1 : Int32) ≤ 1)]
    exact key (by decide)
  · rw [if_neg (by grind)]
    exact zP_ok h
theorem zop_back {I J : zxI} (h : zR I J) (x1 : Int32) : zP (fX6_back x1 I) (fX7_back x1 J) := by
  obtain ⟨⟨G, W, c1, c2, c3, c4, c5, c6, c7, c8, c9, c10, c11, c12, c13, c14, c15, c16, c17, c18, c19, c20, c21, c22, c23, c24, ⟨c, hc, ec⟩, -⟩, hf⟩ := id h
  unfold fX6_back fX7_back
  simp only [zM_wi, zxB_s, zi_b, c24, ec, zxU_s]
  refine zP_l (fun q1 => ?_) (fun q1 => zP_l (fun q2 => ?_) (fun q2 => ?_))
  · rw [if_neg (fun z => absurd z.1 (Int32.not_le.mpr q1))]
    exact zP_ok h
  · rw [if_pos (And.intro (Int32.not_lt.mp q1) q2)]
    obtain ⟨k, hk, rfl⟩ := zq_ofL (x := x1) (M := nI c) (n := c) (nI_toInt (by omega)) ⟨Int32.not_lt.mp q1, q2⟩
    rw [pk_sub hk]
    exact zP_ok (zR_count h (by omega))
  · rw [if_neg (fun z => q2 z.2)]
    exact zP_ok h
/-- whether the readings are so, if each bird bears 'be': m readings from k on -/
def zas (rw rf rd : Nat → Int32) (be : Nat → Int32) : Nat → Nat → Int32
  | 0, _ => 1
  | m + 1, k => if rf k ≤ be (rw k).toNatClampNeg then (if 0 = rd k then zas rw rf rd be m (k + 1) else 0) else (if 1 = rd k then zas rw rf rd be m (k + 1) else 0)
theorem zas_s (rw rf rd be : Nat → Int32) (m k : Nat) : zas rw rf rd be (m + 1) k = if rf k ≤ be (rw k).toNatClampNeg then (if 0 = rd k then zas rw rf rd be m (k + 1) else 0) else (if 1 = rd k then zas rw rf rd be m (k + 1) else 0) := rfl
theorem zX_asL {I : zxI} {c g : Nat} {v : Int32} {be : Nat → Int32} (hg : g < 6) (hb : ∀ j, j < 6 → be j = if j = g then v else zbe (I 12 j) (I 13 j)) (hr : ∀ q, q < 8 → ∃ g, g < 6 ∧ I 32 q = nI g) (hc : I 31 0 = nI c) (h8 : c ≤ 8) : ∀ (m k n : Nat), k + m = c → m < n → fX3_areSo_L3 n (nI g) v (nI k) I = some (zas (I 32) (I 33) (I 34) be m k, I) := by
  intro m
  induction m with
  | zero =>
    intro k n hk hn
    obtain ⟨n, rfl⟩ : ∃ x, n = x + 1 := ⟨n - 1, by omega⟩
    rw [fX3_areSo_L3, hc, if_pos (nI_le (by omega) (by omega))]
    rfl
  | succ m ih =>
    intro k n hk hn
    obtain ⟨n, rfl⟩ : ∃ x, n = x + 1 := ⟨n - 1, by omega⟩
    obtain ⟨j, hj, ej⟩ := hr k (by omega)
    have ih' := ih (k + 1) n (by omega) (by omega)
    rw [fX3_areSo_L3, hc, if_neg (nI_ge (by omega) (by omega)), if_pos (zq_in (show k < 8 by omega) (by decide))]
    simp only [zq_cl (show k < 2 ^ 31 by omega), ej, zX_bears hj, zxB_s, nI_1, ih']
    rw [zas_s, ej, zq_cl (by omega), hb j hj]
    by_cases e : j = g
    · subst e
      rw [if_pos rfl, if_pos rfl]
      split <;> split <;> rfl
    · rw [if_neg (fun z => e ((nI_eq (by omega) (by omega)).mp z)), if_neg e]
      split <;> split <;> rfl
theorem zM_asL {I : zxI} {c : Nat} {be : Nat → Int32} (hb : ∀ j, j < 6 → be j = zbe (I 5 j) (I 7 j)) (hK : ∀ g, g < 6 → zK3 (I 5 g)) (hr : ∀ q, q < 8 → ∃ g, g < 6 ∧ I 13 q = nI g) (hc : I 0 25 = nI c) (h8 : c ≤ 8) : ∀ (m k n : Nat), k + m = c → m < n → fX7_areSo_L2 n (nI k) I = some (zas (I 13) (I 14) (I 15) be m k, I) := by
  intro m
  induction m with
  | zero =>
    intro k n hk hn
    obtain ⟨n, rfl⟩ : ∃ x, n = x + 1 := ⟨n - 1, by omega⟩
    rw [fX7_areSo_L2, hc, if_pos (nI_le (by omega) (by omega))]
    rfl
  | succ m ih =>
    intro k n hk hn
    obtain ⟨n, rfl⟩ : ∃ x, n = x + 1 := ⟨n - 1, by omega⟩
    obtain ⟨j, hj, ej⟩ := hr k (by omega)
    have ih' := ih (k + 1) n (by omega) (by omega)
    rw [fX7_areSo_L2, hc, if_neg (nI_ge (by omega) (by omega)), if_pos (zq_in (show k < 8 by omega) (by decide))]
    simp only [zq_cl (show k < 2 ^ 31 by omega), ej, zM_bears hj (hK j hj), zxB_s, nI_1, ih']
    rw [zas_s, ej, zq_cl (by omega), hb j hj]
    split <;> split <;> rfl
theorem zas_01 (rw rf rd be : Nat → Int32) : ∀ m k, zas rw rf rd be m k = 0 ∨ zas rw rf rd be m k = 1 := by
  intro m
  induction m with
  | zero => intro k; exact Or.inr rfl
  | succ m ih =>
    intro k
    rw [zas_s]
    split <;> split <;> first | exact ih _ | exact Or.inl rfl
