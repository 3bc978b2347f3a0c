/-! shift -/
theorem zX_ios (x : Int32) (I : zxI) : fX6_isOfShift x I = some (if (0 ≤ x ∧ x ≤ 3) ∨ (10 ≤ x ∧ x ≤ 15) then 1 else 0, I) := by
  unfold fX6_isOfShift
  grind
theorem zd_s1 {a d s : Nat} (h1 : a ||| d = d) (h2 : s &&& d = 0) : a &&& s = 0 := by
  apply Nat.eq_of_testBit_eq
  intro j
  have e1 := congrArg (fun z => z.testBit j) h1
  have e2 := congrArg (fun z => z.testBit j) h2
  simp only [Nat.testBit_or, Nat.testBit_and, Nat.zero_testBit] at e1 e2 ⊢
  revert e1 e2
  cases a.testBit j <;> cases d.testBit j <;> cases s.testBit j <;> decide
theorem zd_s2 {a d s : Nat} (h1 : a ||| d = d) : (a ||| s) ||| (d ||| s) = d ||| s := by
  apply Nat.eq_of_testBit_eq
  intro j
  have e1 := congrArg (fun z => z.testBit j) h1
  simp only [Nat.testBit_or] at e1 ⊢
  revert e1
  cases a.testBit j <;> cases d.testBit j <;> cases s.testBit j <;> decide
theorem zTT_u {I J T U : zxI} {G d q : Nat} {v : Int32} (h : zTT I J T U G d) (h1 : 21 ≤ q) (h2 : q ≠ 25) : zTT I J T (zxU U 0 q v) G d := by
  obtain ⟨a1, a2, a3, a4, a5, a6, a7, a8, a9, a10, a11⟩ := h
  refine ⟨a1, a2, ?_, a4, ?_, a6, ?_, ?_, ?_, ?_, ?_⟩
  · rw [zxU_q (by decide)]; exact a3
  · rw [zxU_k (by omega)]; exact a5
  · intro q' h'; rw [zxU_q (by omega)]; exact a7 q' h'
  · intro k h'; rw [zxU_k (by omega)]; exact a8 k h'
  · intro k h'; rw [zxU_q (by decide)]; exact a9 k h'
  · rw [zxU_k (by omega)]; exact a10
  · intro k h'; rw [zxU_q (by decide)]; exact a11 k h'
/-- a pair of the shift, seen in a trial -/
theorem zTT_pair {I J T U : zxI} {k i G W p n d : Nat} (hT : zTT I J T U G d) (hp : zPr I J k i G W p) (hpn : p < n) (hn : n ≤ 20) (hk : k < 4) (hi : i + 2 * n ≤ 60) : ∃ g w, g < G ∧ w < W ∧ T 36 p = nI g ∧ T 37 p = nI w ∧ U 3 (60 * k + i + 2 * p) = nI g ∧ U 3 (60 * k + i + 2 * p + 1) = nI w := by
  obtain ⟨g, w, hg, hw, e1, e2, e3, e4⟩ := hp
  exact ⟨g, w, hg, hw, by rw [hT.x 36 (by omega) (by omega)]; exact e1, by rw [hT.x 37 (by omega) (by omega)]; exact e2, by rw [hT.m 3 (by omega)]; exact e3, by rw [hT.m 3 (by omega)]; exact e4⟩
theorem zsh_L {I J : zxI} {k i n G W : Nat} {x5 : Int32} (hc : zRc I J G W) (h35 : I 35 0 = nI n) (hk : k < 4) (hi : i + 2 * n ≤ 60) (hn : n ≤ 20) (hP : ∀ p, p < n → zPr I J k i G W p) : ∀ (m p f f' : Nat) (T U : zxI) (d a : Nat) (v : Int32), p + m = n → m < f → m < f' → zTT I J T U G d → U 0 9 = J 0 9 → a < 64 → a ||| d = d → U 0 21 = nI (zpc a) → U 0 22 = v → ∃ T' U' d' a' v' F, fX6_shift_L95 f x5 (nI a) v (nI p) T = fX6_shift_L95 (F + 1) x5 (nI a') v' (nI n) T' ∧ fX7_goShift_L13 f' (nI (60 * k + i)) (nI n) (nI p) U = some U' ∧ zTT I J T' U' G d' ∧ U' 0 9 = J 0 9 ∧ a' < 64 ∧ U' 0 21 = nI (zpc a') ∧ U' 0 22 = v' := by
  intro m
  induction m with
  | zero =>
    intro p f f' T U d a v hp hf hf' hT h9 ha had h21 h22
    obtain ⟨f, rfl⟩ : ∃ x, f = x + 1 := ⟨f - 1, by omega⟩
    obtain ⟨f', rfl⟩ : ∃ x, f' = x + 1 := ⟨f' - 1, by omega⟩
    have e : p = n := by omega
    subst e
    refine ⟨T, U, d, a, v, f, rfl, ?_, hT, h9, ha, h21, h22⟩
    rw [fX7_goShift_L13, if_pos (nI_le (Nat.le_refl _) (by omega))]
  | succ m ih =>
    intro p f f' T U d a v hp hf hf' hT h9 ha had h21 h22
    obtain ⟨f, rfl⟩ : ∃ x, f = x + 1 := ⟨f - 1, by omega⟩
    obtain ⟨f', rfl⟩ : ∃ x, f' = x + 1 := ⟨f' - 1, by omega⟩
    have a2 : nI (60 * k + i) + (2 : Int32) * nI p = nI (60 * k + i + 2 * p) := by rw [show (2 : Int32) = nI 2 from rfl, pk_mul, nI_add]
    have r35 : T 35 = I 35 := hT.x 35 (by omega) (by omega)
    have r10 : T 10 = I 10 := hT.x 10 (by omega) (by omega)
    obtain ⟨g, w, hg, hw, e1, e2, e3, e4⟩ := zTT_pair hT (hP p (by omega)) (show p < n by omega) hn hk hi
    obtain ⟨T', U', s, hX, hM, hs, hz, hT', hk'⟩ := zT_br (dr := I 10 5) hc hT (by rw [h9]; exact hc.2.2.2.2.2.2.2.2.2.2.2.2.2.1) hg hw
    have t1 : ¬ nI n ≤ nI p := nI_ge (by omega) (by omega)
    rw [fX6_shift_L95, fX7_goShift_L13, r35, h35, if_neg t1, if_neg t1, a2, nI_1]
    simp only [zq_in (show p < 20 by omega) (show 20 < 2 ^ 31 by decide), zq_in (show 60 * k + i + 2 * p < 240 by omega) (show 240 < 2 ^ 31 by decide), zq_in (show 60 * k + i + 2 * p + 1 < 240 by omega) (show 240 < 2 ^ 31 by decide), if_true, zq_cl (show p < 2 ^ 31 by omega), zq_cl (show 60 * k + i + 2 * p < 2 ^ 31 by omega), zq_cl (show 60 * k + i + 2 * p + 1 < 2 ^ 31 by omega), e1, e2, e3, e4, r10, hX, hM, zxB_s, zM_sz hs, nI_1, (zd_orN a ha s hs).1]
    have u21 : U' 0 21 = nI (zpc a) := by rw [hk' 21 (by decide)]; exact h21
    have u22 : U' 0 22 = v := by rw [hk' 22 (by decide)]; exact h22
    have u9 : U' 0 9 = J 0 9 := by rw [hk' 9 (by decide)]; exact h9
    have hsum : nI (zpc a) + nI (zpc s) = nI (zpc (a ||| s)) := by rw [nI_add, (zd_pc a ha s hs).1 (zd_s1 had hz)]
    rw [u21, hsum, zxU_k (show 22 ≠ 21 by decide), u22]
    have go : ∀ v', ∃ T'' U'' d'' a'' v'' F, fX6_shift_L95 f x5 (nI (a ||| s)) v' (nI (p + 1)) T' = fX6_shift_L95 (F + 1) x5 (nI a'') v'' (nI n) T'' ∧ fX7_goShift_L13 f' (nI (60 * k + i)) (nI n) (nI (p + 1)) (zxU (zxU U' 0 21 (nI (zpc (a ||| s)))) 0 22 v') = some U'' ∧ zTT I J T'' U'' G d'' ∧ U'' 0 9 = J 0 9 ∧ a'' < 64 ∧ U'' 0 21 = nI (zpc a'') ∧ U'' 0 22 = v'' := by
      intro v'
      exact ih (p + 1) f f' T' _ (d ||| s) (a ||| s) v' (by omega) (by omega) (by omega) (zTT_u (zTT_u hT' (by decide) (by decide)) (by decide) (by decide)) (by rw [zxU_k (by decide), zxU_k (by decide)]; exact u9) (zd_orN a ha s hs).2 (zd_s2 had) (by rw [zxU_k (by decide), zxU_s]) zxU_s
    by_cases q : nI s = 0
    · rw [if_pos q, if_pos q]
      by_cases q2 : v = -9
      · rw [if_pos q2]
        exact go v
      · rw [if_neg q2]
        exact go v
    · rw [if_neg q, if_neg q]
      by_cases q2 : v = -9
      · rw [if_pos q2, if_pos q2]
        exact go (nI p)
      · rw [if_neg q2, if_neg q2]
        exact go v
theorem zsh_sum {T U : zxI} {G : Nat} (h1 : T 10 0 = nI G) (h2 : U 0 5 = nI G) (h6 : G ≤ 6) (he : zE6 (T 17) (U 6)) : ∀ (m p f f' : Nat) (v : Int32), p + m = G → m < f → m < f' → ∃ r, fX6_foulTogether_L4 1 f v (nI p) T = some (r, T) ∧ fX7_tellShift_L69 f' v (nI p) U = some (r, U) := by
  intro m
  induction m with
  | zero =>
    intro p f f' v hp hf hf'
    obtain ⟨f, rfl⟩ : ∃ x, f = x + 1 := ⟨f - 1, by omega⟩
    obtain ⟨f', rfl⟩ : ∃ x, f' = x + 1 := ⟨f' - 1, by omega⟩
    have t : nI G ≤ nI p := nI_le (by omega) (by omega)
    exact ⟨v, by rw [fX6_foulTogether_L4, h1, if_pos t], by rw [fX7_tellShift_L69, h2, if_pos t]⟩
  | succ m ih =>
    intro p f f' v hp hf hf'
    obtain ⟨f, rfl⟩ : ∃ x, f = x + 1 := ⟨f - 1, by omega⟩
    obtain ⟨f', rfl⟩ : ∃ x, f' = x + 1 := ⟨f' - 1, by omega⟩
    have t : ¬ nI G ≤ nI p := nI_ge (by omega) (by omega)
    rw [fX6_foulTogether_L4, h1, if_neg t, fX7_tellShift_L69, h2, if_neg t, if_pos (zq_in (show p < 6 by omega) (by decide)), if_pos (zq_in (show p < 6 by omega) (by decide)), zq_cl (show p < 2 ^ 31 by omega), show T (zaF 1) = T 17 from rfl, he p (by omega), nI_1]
    exact ih (p + 1) f f' _ (by omega) (by omega) (by omega)
theorem zsh_tell {I J T U : zxI} {G W d a F n : Nat} {v x5 : Int32} (hc : zRc I J G W) (hT : zTT I J T U G d) (h35 : I 35 0 = nI n) (hn : n ≤ 20) (ha : a < 64) (h21 : U 0 21 = nI (zpc a)) (h22 : U 0 22 = v) (hx : (0 ≤ x5 ∧ x5 ≤ 3) ∨ (10 ≤ x5 ∧ x5 ≤ 15)) : ∃ r, fX6_shift_L95 (F + 1) x5 (nI a) v (nI n) T = some (r, T) ∧ fX7_tellShift x5 U = some (r, U) := by
  have r35 : T 35 = I 35 := hT.x 35 (by omega) (by omega)
  have r10 : T 10 0 = nI G := by rw [hT.x 10 (by omega) (by omega)]; exact hc.1
  have u5 : U 0 5 = nI G := by rw [hT.m0 5 (by omega)]; exact hc.2.1
  have h6 : G ≤ 6 := hc.2.2.2.1
  have t1 : nI n ≤ nI n := nI_le (Nat.le_refl _) (by omega)
  rw [fX6_shift_L95, r35, h35, if_pos t1]
  unfold fX7_tellShift
  rcases hx with hx | hx
  · obtain ⟨t, ht, rfl⟩ := zq_ofL (n := 3) rfl hx
    have t10 : nI t < 10 := nI_lt (b := 10) (by omega) (by decide)
    rw [if_pos t10]
    rcases (show t = 0 ∨ t = 1 ∨ t = 2 ∨ t = 3 by omega) with e | e | e | e
    · subst e
      rw [if_pos (by decide), zJ_bc ha, zxB_s, if_neg (by decide), if_pos (by decide), h21]
      exact ⟨_, rfl, rfl⟩
    · subst e
      rw [if_neg (by decide), if_pos (by decide), if_neg (by decide), if_neg (by decide), if_pos (by decide), h22]
      exact ⟨_, rfl, rfl⟩
    · subst e
      rw [if_neg (by decide), if_neg (by decide), if_pos (by decide), if_neg (by decide), if_neg (by decide), if_neg (by decide), hT.dm, show T (zaO 1) 1 = nI d from hT.dx]
      exact ⟨_, rfl, rfl⟩
    · subst e
      obtain ⟨r, e1, e2⟩ := zsh_sum r10 u5 h6 hT.e G 0 1000 1000 0 (by omega) (by omega) (by omega)
      rw [show nI 0 = (0 : Int32) from rfl] at e1 e2
      unfold fX6_foulTogether
      rw [if_neg (by decide), if_neg (by decide), if_neg (by decide), if_pos (by decide), if_pos (by decide), e1, e2, zxB_s]
      exact ⟨_, rfl, rfl⟩
  · obtain ⟨t, ht, rfl⟩ := zq_ofL (x := x5) (M := 15) (n := 15) rfl ⟨Int32.le_trans (by decide) hx.1, hx.2⟩
    have t10 : 10 ≤ t := (nI_leI (a := 10) (b := t) (by decide) (by omega)).mp hx.1
    obtain ⟨g, rfl⟩ : ∃ g, t = 10 + g := ⟨t - 10, by omega⟩
    have e : nI (10 + g) - 10 = nI g := by rw [show (10 : Int32) = nI 10 from rfl, pk_sub (by omega)]; congr 1; omega
    have n0 : ¬ nI (10 + g) = (0 : Int32) := nI_ne0 (by omega) (by omega)
    have n1 : ¬ nI (10 + g) = (1 : Int32) := fun z => by have := (nI_eq (a := 10 + g) (b := 1) (by omega) (by decide)).mp z; omega
    have n2 : ¬ nI (10 + g) = (2 : Int32) := fun z => by have := (nI_eq (a := 10 + g) (b := 2) (by omega) (by decide)).mp z; omega
    have n3 : ¬ nI (10 + g) = (3 : Int32) := fun z => by have := (nI_eq (a := 10 + g) (b := 3) (by omega) (by decide)).mp z; omega
    have n4 : ¬ nI (10 + g) < (10 : Int32) := nI_nlt (a := 10 + g) (b := 10) (by omega) (by omega)
    rw [if_neg n0, if_neg n1, if_neg n2, if_neg n3, if_neg n4, e, zX_isG, zM_isG, zxB_s, zxB_s, zi_b, zi_b, r10, u5, show T (zaF 1) = T 17 from rfl]
    by_cases q : 0 ≤ nI g ∧ nI g < nI G
    · rw [if_pos q, if_pos q, if_pos (zq_in (show g < 6 by omega) (by decide)), if_pos (zq_in (show g < 6 by omega) (by decide)), zq_cl (show g < 2 ^ 31 by omega), hT.e g (by omega)]
      exact ⟨_, rfl, rfl⟩
    · rw [if_neg q, if_neg q]
      exact ⟨_, rfl, rfl⟩
theorem zc14 {I J : zxI} {G W : Nat} (h : zRc I J G W) : J 0 9 = I 10 5 := h.2.2.2.2.2.2.2.2.2.2.2.2.2.1
/-- a trial's end, when the doors are as they were -/
theorem zT_fin {I J T U : zxI} {G W d : Nat} (h : zR I J) (hc : zRc I J G W) (hT : zTT I J T U G d) (h9 : U 0 9 = J 0 9) : ∃ U', fX7_putBack U = some U' ∧ zR T U' ∧ zRc T U' G W ∧ (∀ q, 1 ≤ q → q ≠ 10 → U' q = J q) ∧ (∀ k, k < 20 ∨ k = 25 → U' 0 k = J 0 k) ∧ (∀ k, k ≠ 8 → U' 0 k = U 0 k) := by
  obtain ⟨U', e1, e2, e3, e4⟩ := zT_1 hc hT
  have f2 : ∀ k, k < 20 ∨ k = 25 → U' 0 k = J 0 k := by
    intro k hk
    by_cases e : k = 9
    · subst e
      rw [e4 9 (by decide)]; exact h9
    · exact e3 k (by omega)
  have hX : zXf I T := fun q hq => hT.x q (by omega) (by omega)
  refine ⟨U', e1, zT_end h hT e2 f2, ?_, e2, f2, e4⟩
  exact zRc_fr hc (hX 0 (by omega)) (hX 10 (by omega)) (hX 11 (by omega)) (hX 12 (by omega)) (hX 13 (by omega)) (hX _ (by unfold zaO; omega)) (hX _ (by unfold zaF; omega)) (hX 31 (by omega)) (hX 32 (by omega)) (hX 33 (by omega)) (hX 34 (by omega)) (f2 0 (by omega)) (f2 1 (by omega)) (f2 5 (by omega)) (f2 6 (by omega)) (f2 7 (by omega)) (f2 8 (by omega)) (f2 9 (by omega)) (f2 25 (by omega)) (e2 4 (by omega) (by omega)) (e2 5 (by omega) (by omega)) (e2 6 (by omega) (by omega)) (e2 7 (by omega) (by omega)) (e2 13 (by omega) (by omega)) (e2 14 (by omega) (by omega)) (e2 15 (by omega) (by omega))
theorem zsh_all {I J : zxI} {k i n G W : Nat} {x5 : Int32} (hk : k < 4) (hn : n ≤ 20) (h : zR I J) (hc : zRc I J G W) (hi : i + 2 * n ≤ 60) (h35 : I 35 0 = nI n) (hP : ∀ p, p < n → zPr I J k i G W p) (hx : (0 ≤ x5 ∧ x5 ≤ 3) ∨ (10 ≤ x5 ∧ x5 ≤ 15)) : zP (zxV (fX0_becomeLike 1 0 I) (fun I_13 => fX6_shift_L95 1000 x5 0 (-9) 0 I_13)) (zxV (fX7_keep J) (fun I_5 => zxV (fX7_goShift (60 * nI k + nI i) (nI n) I_5) (fun I_6 => zxB (fX7_tellShift x5 I_6) (fun r_7 I_7 => zxV (fX7_putBack I_7) (fun I_8 => some (r_7, I_8)))))) := by
  obtain ⟨T, U, d, e1, e2, hT, ed, h9⟩ := zT_0 hc
  rw [e1, e2, zxV_s, zxV_s]
  have a2 : (60 : Int32) * nI k + nI i = nI (60 * k + i) := by rw [show (60 : Int32) = nI 60 from rfl, pk_mul, nI_add]
  obtain ⟨T', U', d', a', v', F, f1, f2, hT', h9', ha', h21, h22⟩ := zsh_L (x5 := x5) hc h35 hk hi hn hP n 0 1000 1000 T (zxU (zxU U 0 21 0) 0 22 (-9)) d 0 (-9) (by omega) (by omega) (by omega) (zTT_u (zTT_u hT (by decide) (by decide)) (by decide) (by decide)) (by rw [zxU_k (by decide), zxU_k (by decide)]; exact h9) (by decide) (Nat.zero_or d) (by rw [zxU_k (by decide), zxU_s]; rfl) zxU_s
  rw [show nI 0 = (0 : Int32) from rfl] at f1 f2
  obtain ⟨r, g1, g2⟩ := zsh_tell (F := F) hc hT' h35 hn ha' h21 h22 hx
  obtain ⟨U'', b1, b2, -⟩ := zT_fin h hc hT' h9'
  unfold fX7_goShift
  rw [a2, f2, zxV_s, g2, zxB_s, b1, zxV_s, f1, g1]
  exact zP_ok b2
theorem zop_shift {I J : zxI} (h : zR I J) (x1 x2 x3 x4 x5 : Int32) : zP (fX6_shift x1 x2 x3 x4 x5 I) (fX7_shift x1 x2 x3 x4 x5 J) := by
  have h := zR_fault h 0
  unfold fX6_shift fX7_shift
  generalize zxU I 0 10 0 = I at h ⊢
  generalize zxU J 0 0 0 = J at h ⊢
  simp only [zX_isS, zX_isL, zX_ios, zM_wi, zxB_s, zi_b]
  have key := zref h x1 x2 x3 x4 (lim := 20) (by omega) ((0 ≤ x5 ∧ x5 ≤ 3) ∨ (10 ≤ x5 ∧ x5 ≤ 15))
    (K := fun r_3 I_3 => if r_3 = 0 then zxV (fX7_keep I_3) (fun I_5 => zxV (fX7_goShift (60 * x1 + x3) x4 I_5) (fun I_6 => zxB (fX7_tellShift x5 I_6) (fun r_7 I_7 => zxV (fX7_putBack I_7) (fun I_8 => some (r_7, I_8))))) else some (r_3, I_3))
    (KX := fun I_10 => zxV (fX0_becomeLike 1 0 I_10) (fun I_13 => fX6_shift_L95 1000 x5 0 (-9) 0 I_13))
    (fun r J' hr => if_neg hr)
    (fun k n i G W I' hk hn e1 e4 e3 hb hz => by
      subst e1 e4 e3
      exact zsh_all hk hn hz.2.2.1 hz.2.2.2.1 hz.2.2.2.2.1 hz.2.2.2.2.2.2.1 hz.2.2.2.2.2.2.2 hb)
  by_cases b1 : 0 ≤ x5 ∧ x5 ≤ 3
  · rw [show (if ((0 ≤ x5 ∧ x5 ≤ 3) ∨ (10 ≤ x5 ∧ x5 ≤ 15)) then (1 : Int32) else 0) = 1 from if_pos (Or.inl b1)] at key
    rw [if_pos b1]
    exact key
  · rw [if_neg b1]
    by_cases b2 : 10 ≤ x5 ∧ x5 ≤ 15
    · rw [show (if ((0 ≤ x5 ∧ x5 ≤ 3) ∨ (10 ≤ x5 ∧ x5 ≤ 15)) then (1 : Int32) else 0) = 1 from if_pos (Or.inr b2)] at key
      rw [if_pos b2]
      exact key
    · rw [show (if ((0 ≤ x5 ∧ x5 ≤ 3) ∨ (10 ≤ x5 ∧ x5 ≤ 15)) then (1 : Int32) else 0) = 0 from if_neg (fun z => z.elim b1 b2)] at key
      rw [if_neg b2]
      exact key
