/-! sets of at most six, what is counted; breaths as operations -/
def zpc (d : Nat) : Nat := d % 2 + (d / 2) % 2 + (d / 4) % 2 + (d / 8) % 2 + (d / 16) % 2 + (d / 32) % 2
def zJv (x : Int32) : Int32 := match fJ6_bitCount_0f7a4 x (fun _ _ => 0) with
  | some q => q.1
  | none => 0
theorem zJ_bc0 (x : Int32) (I : zxI) : fJ6_bitCount_0f7a4 x I = some (zJv x, I) := rfl
theorem zJv_64 : ∀ d, d < 64 → zJv (nI d) = nI (zpc d) := by decide +kernel
theorem zJ_bc {d : Nat} (hd : d < 64) (I : zxI) : fJ6_bitCount_0f7a4 (nI d) I = some (nI (zpc d), I) := by rw [zJ_bc0, zJv_64 d hd]
theorem zS_L (I : zxI) : ∀ (n : Nat) (a v : Int32), fX7_size_L4 n a v I = (fX7_size_L4 n a v (fun _ _ => 0)).map (fun q => (q.1, I)) := by
  intro n
  induction n with
  | zero => intro a v; rfl
  | succ n ih =>
    intro a v
    rw [fX7_size_L4, fX7_size_L4]
    by_cases c : v ≤ 0
    · rw [if_pos c, if_pos c]; rfl
    · rw [if_neg c, if_neg c]; exact ih _ _
theorem zS_64 : ∀ d, d < 64 → (fX7_size_L4 7 0 (nI d) (fun _ _ => 0)).map Prod.fst = some (nI (zpc d)) := by decide +kernel
theorem zS_more (I : zxI) : ∀ (n k : Nat) (a v r : Int32), fX7_size_L4 n a v I = some (r, I) → fX7_size_L4 (n + k) a v I = some (r, I) := by
  intro n
  induction n with
  | zero => intro k a v r h; cases h
  | succ n ih =>
    intro k a v r h
    rw [show n + 1 + k = (n + k) + 1 by omega, fX7_size_L4]
    rw [fX7_size_L4] at h
    by_cases c : v ≤ 0
    · rw [if_pos c] at h ⊢; exact h
    · rw [if_neg c] at h ⊢; exact ih k _ _ _ h
theorem zM_sz {d : Nat} (hd : d < 64) (I : zxI) : fX7_size (nI d) I = some (nI (zpc d), I) := by
  unfold fX7_size
  refine zS_more I 7 993 0 (nI d) _ ?_
  rw [zS_L]
  have := zS_64 d hd
  cases h : fX7_size_L4 7 0 (nI d) (fun _ _ => 0) with
  | none => rw [h] at this; cases this
  | some q =>
    rw [h] at this
    have e : q.1 = nI (zpc d) := Option.some.inj this
    show some (q.1, I) = _
    rw [e]
theorem zd_or1 : ∀ x, x < 64 → ∀ k, k < 6 → (nI x ||| ((1 : Int32) <<< (nI k &&& 31))).toNatClampNeg < 64 ∧ (nI x ||| ((1 : Int32) <<< (nI k &&& 31))) = nI (nI x ||| ((1 : Int32) <<< (nI k &&& 31))).toNatClampNeg := by decide +kernel
theorem zd_or2 : ∀ x, x < 64 → ∀ y, y < 64 → (nI x ||| nI y).toNatClampNeg < 64 ∧ (nI x ||| nI y) = nI (nI x ||| nI y).toNatClampNeg := by decide +kernel
theorem zd_or {x y : Nat} (hx : x < 64) (hy : y < 64) : ∃ e, e < 64 ∧ nI x ||| nI y = nI e := ⟨_, (zd_or2 x hx y hy).1, (zd_or2 x hx y hy).2⟩
theorem zd_clr : ∀ x, x < 64 → ∀ k, k < 6 → (nI x &&& (((1 : Int32) <<< (nI k &&& 31)) ^^^ (-1))).toNatClampNeg < 64 ∧ (nI x &&& (((1 : Int32) <<< (nI k &&& 31)) ^^^ (-1))) = nI (nI x &&& (((1 : Int32) <<< (nI k &&& 31)) ^^^ (-1))).toNatClampNeg := by decide +kernel
theorem zds_64 {f ks ss : Nat → Int32} {d : Int32} : ∀ (m k x : Nat), k + m ≤ 6 → x < 64 → ∃ y, y < 64 ∧ zds f ks ss d m k (nI x) = nI y := by
  intro m
  induction m with
  | zero => intro k x _ hx; exact ⟨x, hx, rfl⟩
  | succ m ih =>
    intro k x hk hx
    unfold zds
    by_cases c1 : ((d >>> (nI k &&& 31)) &&& 1) = 1
    · rw [if_pos c1]; exact ih _ _ (by omega) hx
    · rw [if_neg c1]
      by_cases c2 : f k ≤ zbe (ks k) (ss k)
      · rw [if_pos c2]; exact ih _ _ (by omega) hx
      · rw [if_neg c2, (zd_or1 x hx k (by omega)).2]
        exact ih _ _ (by omega) (zd_or1 x hx k (by omega)).1
theorem zbh_64 {G : Nat} {dr : Int32} {ks ss f : Nat → Int32} {d : Nat} (h6 : G ≤ 6) (hd : d < 64) : ∃ s e, s < 64 ∧ e < 64 ∧ (zbh G dr ks ss f (nI d)).1 = nI s ∧ (zbh G dr ks ss f (nI d)).2.2 = nI e := by
  obtain ⟨s, hs, es⟩ := zds_64 (f := (zps dr (G - 1) 0 f 0).1) (ks := ks) (ss := ss) (d := nI d) G 0 0 (by omega) (by decide)
  obtain ⟨e, he, ee⟩ := zd_or hd hs
  have es' : (zbh G dr ks ss f (nI d)).1 = nI s := es
  refine ⟨s, e, hs, he, es', ?_⟩
  show nI d ||| (zbh G dr ks ss f (nI d)).1 = nI e
  rw [es', ee]
theorem zM_bh2 {G : Nat} {I : zxI} (hG : I 0 5 = nI G) (h6 : G ≤ 6) (hK : ∀ g, g < 6 → zK3 (I 5 g)) : ∃ (c : Int32) (I1 : zxI), fX7_pass I = some (c, I1) ∧ fX7_drop I1 = some ((zbh G (I 0 9) (I 5) (I 7) (I 6) (I 0 8)).1, zAM I (zbh G (I 0 9) (I 5) (I 7) (I 6) (I 0 8)).2.1 (zbh G (I 0 9) (I 5) (I 7) (I 6) (I 0 8)).2.2) := by
  obtain ⟨c, I1, e1, e2⟩ := zx_b (zM_bh hG h6 hK)
  obtain ⟨r, I2, e3, e4⟩ := zx_b e2
  exact ⟨c, I1, e1, e3.trans e4⟩
/-- a hushed breath keeps the relation -/
theorem zR_bh {I J : zxI} (h : zR I J) : ∃ (s : Nat) (I' J' J1 : zxI) (c : Int32), s < 64 ∧ fX2_breatheHushed 0 (I 10 5) I = some (nI s, I') ∧ fX7_pass J = some (c, J1) ∧ fX7_drop J1 = some (nI s, J') ∧ zR I' J' ∧ I' 10 = I 10 ∧ J' 0 5 = J 0 5 := by
  obtain ⟨⟨G, W, c1, c2, c3, c4, c5, c6, c7, c8, c9, c10, c11, c12, ⟨d, hd, ed⟩, c14, c15, c16, c17, c18, c19, c20, c21, c22, -⟩, hf⟩ := id h
  obtain ⟨c, J1, e1, e2⟩ := zM_bh2 (I := J) c2 c4 (by rw [c17]; exact c22)
  obtain ⟨s, e, hs, he, es, ee⟩ := zbh_64 (G := G) (dr := I 10 5) (ks := I 12) (ss := I 13) (f := I (zaF 0)) (d := d) c4 hd
  have hx := zX_bh (j := 0) (dr := I 10 5) c1 c4 c20
  rw [c12, c14, c17, c18, c19, ed, es, ee] at e2
  rw [ed, es, ee] at hx
  refine ⟨s, _, _, J1, c, hs, hx, e1, e2, zR_air h (zbh_F c4 c20) he, ?_, ?_⟩
  · show zxU (zSR I (zaF 0) _) (zaO 0) 1 _ 10 = I 10
    rw [zxU_q (by decide), zSR_n (by decide)]
  · show zxU (zSR J 6 _) 0 8 _ 0 5 = J 0 5
    rw [zxU_k (by decide), zSR_n (by decide)]
theorem zR_br {I J : zxI} (h : zR I J) {G W g w : Nat} (hG : I 10 0 = nI G) (hW : I 10 1 = nI W) (hg : g < G) (hw : w < W) : zP (fX2_breathe 0 (I 10 5) (nI g) (nI w) I) (fX7_breathe (nI g) (nI w) J) := by
  obtain ⟨⟨G', W', c1, c2, c3, c4, c5, c6, c7, c8, c9, c10, c11, c12, ⟨d, hd, ed⟩, c14, c15, c16, c17, c18, c19, c20, c21, c22, -⟩, hf⟩ := id h
  have eG : G' = G := (nI_eq (by omega) (by
    rcases Nat.lt_or_ge G (2 ^ 31) with z | z
    · exact z
    · exact absurd hG (by rw [c1]; intro q; have := congrArg Int32.toNatClampNeg q; rw [nI_clamp (by omega)] at this; sorry))).mp (c1.symm.trans hG)
  sorry
