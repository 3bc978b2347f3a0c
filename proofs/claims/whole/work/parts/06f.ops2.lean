/-! sets of at most six, what is counted; breaths as operations -/
def zpc (d : Nat) : Nat := d % 2 + (d / 2) % 2 + (d / 4) % 2 + (d / 8) % 2 + (d / 16) % 2 + (d / 32) % 2
def zJv (x : Int32) : Int32 := match fJ6_bitCount_0f7a4 x (fun _ _ => 0) with
  | some q => q.1
  | none => 0
theorem zJ_bc0 (x : Int32) (I : zxI) : fJ6_bitCount_0f7a4 x I = some (zJv x, I) := rfl
theorem zJv_64 : ∀ d, d < 64 → zJv (nI d) = nI (zpc d) := by decide +kernel
theorem zJ_bc {d : Nat} (hd : d < 64) (I : zxI) : fJ6_bitCount_0f7a4 (nI d) I = some (nI (zpc d), I) := by rw [zJ_bc0, zJv_64 d hd]
theorem zS_L (I : zxI) : ∀ (n : Nat) (a v : Int32), fX7_size_L4 n a v I = (fX7_size_L4 n a v (fun _ _ => 0)).map (fun q => (q.1, I)) := by
  intro n
  induction n with
  | zero => intro a v; rfl
  | succ n ih =>
    intro a v
    rw [fX7_size_L4, fX7_size_L4]
    by_cases c : v ≤ 0
    · rw [if_pos c, if_pos c]; rfl
    · rw [if_neg c, if_neg c]; exact ih _ _
theorem zS_64 : ∀ d, d < 64 → (fX7_size_L4 7 0 (nI d) (fun _ _ => 0)).map Prod.fst = some (nI (zpc d)) := by decide +kernel
theorem zS_more (I : zxI) : ∀ (n k : Nat) (a v r : Int32), fX7_size_L4 n a v I = some (r, I) → fX7_size_L4 (n + k) a v I = some (r, I) := by
  intro n
  induction n with
  | zero => intro k a v r h; cases h
  | succ n ih =>
    intro k a v r h
    rw [show n + 1 + k = (n + k) + 1 by omega, fX7_size_L4]
    rw [fX7_size_L4] at h
    by_cases c : v ≤ 0
    · rw [if_pos c] at h ⊢; exact h
    · rw [if_neg c] at h ⊢; exact ih k _ _ _ h
theorem zM_sz {d : Nat} (hd : d < 64) (I : zxI) : fX7_size (nI d) I = some (nI (zpc d), I) := by
  unfold fX7_size
  refine zS_more I 7 993 0 (nI d) _ ?_
  rw [zS_L]
  have := zS_64 d hd
  cases h : fX7_size_L4 7 0 (nI d) (fun _ _ => 0) with
  | none => rw [h] at this; cases this
  | some q =>
    rw [h] at this
    have e : q.1 = nI (zpc d) := Option.some.inj this
    show some (q.1, I) = _
    rw [e]
theorem zd_or1 : ∀ x, x < 64 → ∀ k, k < 6 → (nI x ||| ((1 : Int32) <<< (nI k &&& 31))).toNatClampNeg < 64 ∧ (nI x ||| ((1 : Int32) <<< (nI k &&& 31))) = nI (nI x ||| ((1 : Int32) <<< (nI k &&& 31))).toNatClampNeg := by decide +kernel
theorem zd_or2 : ∀ x, x < 64 → ∀ y, y < 64 → (nI x ||| nI y).toNatClampNeg < 64 ∧ (nI x ||| nI y) = nI (nI x ||| nI y).toNatClampNeg := by decide +kernel
theorem zd_or {x y : Nat} (hx : x < 64) (hy : y < 64) : ∃ e, e < 64 ∧ nI x ||| nI y = nI e := ⟨_, (zd_or2 x hx y hy).1, (zd_or2 x hx y hy).2⟩
theorem zd_clr : ∀ x, x < 64 → ∀ k, k < 6 → (nI x &&& (((1 : Int32) <<< (nI k &&& 31)) ^^^ (-1))).toNatClampNeg < 64 ∧ (nI x &&& (((1 : Int32) <<< (nI k &&& 31)) ^^^ (-1))) = nI (nI x &&& (((1 : Int32) <<< (nI k &&& 31)) ^^^ (-1))).toNatClampNeg := by decide +kernel
theorem zds_64 {f ks ss : Nat → Int32} {d : Int32} : ∀ (m k x : Nat), k + m ≤ 6 → x < 64 → ∃ y, y < 64 ∧ zds f ks ss d m k (nI x) = nI y := by
  intro m
  induction m with
  | zero => intro k x _ hx; exact ⟨x, hx, rfl⟩
  | succ m ih =>
    intro k x hk hx
    unfold zds
    by_cases c1 : ((d >>> (nI k &&& 31)) &&& 1) = 1
    · rw [if_pos c1]; exact ih _ _ (by omega) hx
    · rw [if_neg c1]
      by_cases c2 : f k ≤ zbe (ks k) (ss k)
      · rw [if_pos c2]; exact ih _ _ (by omega) hx
      · rw [if_neg c2, (zd_or1 x hx k (by omega)).2]
        exact ih _ _ (by omega) (zd_or1 x hx k (by omega)).1
theorem zbh_64 {G : Nat} {dr : Int32} {ks ss f : Nat → Int32} {d : Nat} (h6 : G ≤ 6) (hd : d < 64) : ∃ s e, s < 64 ∧ e < 64 ∧ (zbh G dr ks ss f (nI d)).1 = nI s ∧ (zbh G dr ks ss f (nI d)).2.2 = nI e := by
  obtain ⟨s, hs, es⟩ := zds_64 (f := (zps dr (G - 1) 0 f 0).1) (ks := ks) (ss := ss) (d := nI d) G 0 0 (by omega) (by decide)
  obtain ⟨e, he, ee⟩ := zd_or hd hs
  have es' : (zbh G dr ks ss f (nI d)).1 = nI s := es
  refine ⟨s, e, hs, he, es', ?_⟩
  show nI d ||| (zbh G dr ks ss f (nI d)).1 = nI e
  rw [es', ee]
theorem zM_bh2 {G : Nat} {I : zxI} (hG : I 0 5 = nI G) (h6 : G ≤ 6) (hK : ∀ g, g < 6 → zK3 (I 5 g)) : ∃ (c : Int32) (I1 : zxI), fX7_pass I = some (c, I1) ∧ fX7_drop I1 = some ((zbh G (I 0 9) (I 5) (I 7) (I 6) (I 0 8)).1, zAM I (zbh G (I 0 9) (I 5) (I 7) (I 6) (I 0 8)).2.1 (zbh G (I 0 9) (I 5) (I 7) (I 6) (I 0 8)).2.2) := by
  obtain ⟨c, I1, e1, e2⟩ := zx_b (zM_bh hG h6 hK)
  obtain ⟨r, I2, e3, e4⟩ := zx_b e2
  exact ⟨c, I1, e1, e3.trans e4⟩
/-- a hushed breath keeps the relation -/
theorem zR_bh {I J : zxI} (h : zR I J) : ∃ (s : Nat) (I' J' J1 : zxI) (c : Int32), s < 64 ∧ fX2_breatheHushed 0 (I 10 5) I = some (nI s, I') ∧ fX7_pass J = some (c, J1) ∧ fX7_drop J1 = some (nI s, J') ∧ zR I' J' ∧ I' 10 = I 10 ∧ J' 0 5 = J 0 5 := by
  obtain ⟨⟨G, W, c1, c2, c3, c4, c5, c6, c7, c8, c9, c10, c11, c12, ⟨d, hd, ed⟩, c14, c15, c16, c17, c18, c19, c20, c21, c22, -⟩, hf⟩ := id h
  obtain ⟨c, J1, e1, e2⟩ := zM_bh2 (I := J) c2 c4 (by rw [c17]; exact c22)
  obtain ⟨s, e, hs, he, es, ee⟩ := zbh_64 (G := G) (dr := I 10 5) (ks := I 12) (ss := I 13) (f := I (zaF 0)) (d := d) c4 hd
  have hx := zX_bh (j := 0) (dr := I 10 5) c1 c4 c20
  rw [c12, c14, c17, c18, c19, ed, es, ee] at e2
  rw [ed, es, ee] at hx
  refine ⟨s, _, _, J1, c, hs, hx, e1, e2, zR_air h (zbh_F c4 c20) he, ?_, ?_⟩
  · show zxU (zSR I (zaF 0) _) (zaO 0) 1 _ 10 = I 10
    rw [zxU_q (by decide), zSR_n (by decide)]
  · show zxU (zSR J 6 _) 0 8 _ 0 5 = J 0 5
    rw [zxU_k (by decide), zSR_n (by decide)]
theorem zR_br {I J : zxI} (h : zR I J) {g w : Nat} (hg : g < 6) (hw : w < 4) : zP (fX2_breathe 0 (I 10 5) (nI g) (nI w) I) (fX7_breathe (nI g) (nI w) J) := by
  obtain ⟨⟨G, W, c1, c2, c3, c4, c5, c6, c7, c8, c9, c10, c11, c12, ⟨d, hd, ed⟩, c14, c15, c16, c17, c18, c19, c20, c21, c22, -⟩, hf⟩ := id h
  rw [zX_br (j := 0) c1 c4 c20 hg hw (c21 w hw), zM_br c2 c4 (by rw [c17]; exact c22) hg hw, c12, c14, c16, c17, c18, c19, ed]
  obtain ⟨s, e, hs, he, es, ee⟩ := zbh_64 (G := G) (dr := I 10 5) (ks := I 12) (ss := I 13) (f := upd (I (zaF 0)) g (zcl (I (zaF 0) g + I 11 w - 4))) (d := d) c4 hd
  have ee' : (zbr G (I 10 5) (I 11) (I 12) (I 13) (I (zaF 0)) (nI d) g w).2.2 = nI e := ee
  rw [ee']
  exact zP_ok (zR_air h (zbr_F c4 c20 hg (c21 w hw)) he)
theorem zop_say {I J : zxI} (h : zR I J) (x1 x2 : Int32) : zP (fX6_say x1 x2 I) (fX7_say x1 x2 J) := by
  obtain ⟨⟨G, W, c1, c2, c3, c4, c5, c6, c7, c8, c9, -⟩, hf⟩ := id h
  unfold fX6_say fX7_say
  simp only [zX_isG, zM_isG, zX_isW, zM_isW, zxB_s, zi_b, c1, c2, c5, c6]
  refine zP_ite (fun q => ?_) (fun _ => zP_ok h)
  refine zP_ite (fun q2 => ?_) (fun _ => zP_ok h)
  obtain ⟨g, hg, rfl⟩ := zq_of (by omega) q
  obtain ⟨w, hw, rfl⟩ := zq_of (by omega) q2
  rw [c9]
  obtain ⟨r, I', J', e1, e2, e3⟩ := zR_br (zR_breaths h (I 0 8 + 1)) (g := g) (w := w) (by omega) (by omega)
  rw [e1, e2, zxB_s, zxB_s]
  exact zP_ok e3
theorem zh_L : ∀ (m k n n' a : Nat) (N : Nat) (I J : zxI), zR I J → k + m = N → N ≤ 30 → m < n → m < n' → a < 64 → zP (fX6_hush_L28 n (nI N) (nI a) (nI k) I) (fX7_hush_L27 n' (nI N) (nI a) (nI k) J) := by
  intro m
  induction m with
  | zero =>
    intro k n n' a N I J h hk hN hn hn' ha
    obtain ⟨n, rfl⟩ : ∃ x, n = x + 1 := ⟨n - 1, by omega⟩
    obtain ⟨n', rfl⟩ : ∃ x, n' = x + 1 := ⟨n' - 1, by omega⟩
    rw [fX6_hush_L28, fX7_hush_L27, if_pos (nI_le (by omega) (by omega)), if_pos (nI_le (by omega) (by omega))]
    obtain ⟨⟨G, W, c1, c2, c3, c4, c5, c6, c7, c8, c9, -⟩, hf⟩ := id h
    rw [c9]
    exact zP_ok (zR_breaths h _)
  | succ m ih =>
    intro k n n' a N I J h hk hN hn hn' ha
    obtain ⟨n, rfl⟩ : ∃ x, n = x + 1 := ⟨n - 1, by omega⟩
    obtain ⟨n', rfl⟩ : ∃ x, n' = x + 1 := ⟨n' - 1, by omega⟩
    rw [fX6_hush_L28, fX7_hush_L27, if_neg (nI_ge (by omega) (by omega)), if_neg (nI_ge (by omega) (by omega))]
    obtain ⟨s, I', J', J1, c, hs, e1, e2, e3, e4, -⟩ := zR_bh h
    rw [e1, e2, zxB_s, zxB_s, e3, zxB_s, nI_1]
    obtain ⟨e, he, ee⟩ := zd_or ha hs
    rw [ee]
    exact ih (k + 1) n n' e N I' J' e4 (by omega) hN (by omega) (by omega) he
theorem zX_hM {G : Nat} {I : zxI} (hG : I 10 0 = nI G) (h6 : G ≤ 6) : fX6_hasMine I = some (if G = 0 then 0 else 1, I) := by
  unfold fX6_hasMine
  rw [hG]
  by_cases c : G = 0
  · subst c
    rfl
  · rw [if_neg c, if_neg (nI_nle (by omega) (by omega))]
theorem zM_hM {G : Nat} (h6 : G ≤ 6) : (nI G = 0) = (G = 0) := propext (by
  rw [show (0 : Int32) = nI 0 from rfl, nI_eq (by omega) (by omega)])
theorem zi_b' {α : Type} {c : Prop} [Decidable c] {a b : α} : (if (if c then (0 : Int32) else 1) = 0 then a else b) = if c then a else b := by
  by_cases q : c
  · simp only [if_pos q, zi00, if_true]
  · simp only [if_neg q, zi10, if_false]
theorem zop_hush {I J : zxI} (h : zR I J) (x1 : Int32) : zP (fX6_hush x1 I) (fX7_hush x1 J) := by
  obtain ⟨⟨G, W, c1, c2, c3, c4, c5, c6, c7, c8, c9, -⟩, hf⟩ := id h
  unfold fX6_hush fX7_hush
  simp only [zM_wi, zX_hM c1 c4, zxB_s, zi_b, zi_b', c2, zM_hM c4]
  refine zP_l (fun q1 => ?_) (fun q1 => zP_l (fun q2 => ?_) (fun q2 => ?_))
  · rw [if_neg (fun z => absurd z.1 (Int32.not_le.mpr q1))]
    exact zP_ok h
  · rw [if_pos (And.intro (Int32.not_lt.mp q1) q2)]
    refine zP_ite (fun _ => zP_ok h) (fun _ => ?_)
    obtain ⟨N, hN, rfl⟩ := zq_ofL (x := x1) (M := 30) (n := 30) rfl ⟨by grind, q2⟩
    exact zh_L N 0 1000 1000 0 N I J h (by omega) hN (by omega) (by omega) (by omega)
  · rw [if_neg (fun z => q2 z.2)]
    exact zP_ok h
theorem zop_blow {I J : zxI} (h : zR I J) (x1 : Int32) : zP (fX6_blow x1 I) (fX7_blow x1 J) := by
  obtain ⟨⟨G, W, c1, c2, c3, c4, c5, c6, c7, c8, c9, c10, c11, c12, ⟨d, hd, ed⟩, c14, c15, c16, c17, c18, c19, c20, c21, c22, -⟩, hf⟩ := id h
  unfold fX6_blow fX7_blow fX0_isDown fX7_isOf
  simp only [zX_isG, zM_isG, zxB_s, zi_b, c1, c2]
  refine zP_ite (fun q => ?_) (fun _ => zP_ok h)
  obtain ⟨g, hg, rfl⟩ := zq_of (by omega) q
  have hg6 : g < 6 := by omega
  have hk : zK3 (J 5 g) := by rw [c17]; exact c22 g hg6
  rw [c12, ed]
  by_cases b1 : ((nI d >>> (nI g &&& 31)) &&& 1) = 1
  · obtain ⟨e, he, ee⟩ : ∃ e, e < 64 ∧ nI d &&& (((1 : Int32) <<< (nI g &&& 31)) ^^^ (-1)) = nI e := ⟨_, (zd_clr d hd g hg6).1, (zd_clr d hd g hg6).2⟩
    simp only [if_pos b1, zxB_s, zi10, if_false, if_true, zq_in hg6 (show 6 < 2 ^ 31 by decide), zq_cl (show g < 2 ^ 31 by omega), zX_bears hg6, zM_bears hg6 hk, c17, c18, c19, zxU_s, c12, ed, ee, zJ_bc he, zM_sz he]
    exact zP_ite (fun _ => zP_ok (zR_down h he)) (fun _ => zP_ok h)
  · simp only [if_neg b1, zxB_s, zi00, if_true]
    exact zP_ok h
theorem zop_many {I J : zxI} (h : zR I J) (x1 : Int32) : zP (fX6_many x1 I) (fX7_many x1 J) := by
  obtain ⟨⟨G, W, c1, c2, c3, c4, c5, c6, c7, c8, c9, c10, c11, c12, ⟨d, hd, ed⟩, c14, c15, c16, c17, c18, c19, c20, c21, c22, c23, c24, -⟩, hf⟩ := id h
  unfold fX6_many fX7_many
  rw [c12, ed, zJ_bc hd, zM_sz hd, c24, c9, c1, c2, c5, c6]
  exact zP_ite (fun _ => zP_ok h) (fun _ => zP_ite (fun _ => zP_ok h) (fun _ => zP_ite (fun _ => zP_ok h) (fun _ => zP_ite (fun _ => zP_ok h) (fun _ => zP_ite (fun _ => zP_ok h) (fun _ => zP_ok h)))))
theorem zop_as {I J : zxI} (h : zR I J) (x1 x2 : Int32) : zP (fX6_as x1 x2 I) (fX7_as x1 x2 J) := by
  have h := zR_fault h 0
  obtain ⟨⟨G, W, c1, c2, c3, c4, c5, c6, c7, c8, c9, c10, c11, c12, c13, c14, c15, c16, c17, -⟩, hf⟩ := id h
  unfold fX6_as fX7_as fX6_faulted fX7_fails
  simp only [zX_isG, zM_isG, zM_wi, zxB_s, zi_b, c1, c2]
  refine zP_ite (fun q => ?_) (fun _ => zP_ok h)
  obtain ⟨g, hg, rfl⟩ := zq_of (by omega) q
  simp only [if_true, zq_in (show g < 6 by omega) (show 6 < 2 ^ 31 by decide), zq_cl (show g < 2 ^ 31 by omega), c17]
  refine zP_l (fun q1 => ?_) (fun q1 => zP_l (fun q2 => ?_) (fun q2 => ?_))
  · rw [if_neg (fun z => absurd z.1 (Int32.not_le.mpr q1))]
    exact zP_ok h
  · rw [if_pos (And.intro (Int32.not_lt.mp q1) (by grind))]
    exact zP_ite (fun _ => zP_ok (zR_fault h 2)) (fun _ => zP_ok h)
  · rw [if_neg (by grind)]
    exact zP_ok h
