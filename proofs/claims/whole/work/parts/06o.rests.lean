/-! rests, clears -/
theorem zps_c (dr : Int32) : ∀ (m k : Nat) (f : Nat → Int32) (a : Nat), ∃ x, x ≤ a + m ∧ (zps dr m k f (nI a)).2 = nI x := by
  intro m
  induction m with
  | zero => intro k f a; exact ⟨a, by omega, rfl⟩
  | succ m ih =>
    intro k f a
    unfold zps
    by_cases c1 : ((dr >>> (nI k &&& 31)) &&& 1) = 1 ∧ (1 < f k - f (k + 1) ∨ f k - f (k + 1) < -1)
    · rw [if_pos c1, nI_1]
      by_cases c2 : 0 < f k - f (k + 1)
      · rw [if_pos c2]
        obtain ⟨x, hx, ex⟩ := ih (k + 1) (upd (upd f k (f k - 1)) (k + 1) (f (k + 1) + 1)) (a + 1)
        exact ⟨x, by omega, ex⟩
      · rw [if_neg c2]
        obtain ⟨x, hx, ex⟩ := ih (k + 1) (upd (upd f k (f k - (-1))) (k + 1) (f (k + 1) + (-1))) (a + 1)
        exact ⟨x, by omega, ex⟩
    · rw [if_neg c1]
      obtain ⟨x, hx, ex⟩ := ih (k + 1) f a
      exact ⟨x, by omega, ex⟩
theorem zrs_L {I J : zxI} {G W : Nat} (h : zR I J) (hc : zRc I J G W) (hG : 0 < G) : ∀ (m v f f' : Nat) (T U : zxI) (d : Nat), v + m = 61 → m < f → m < f' → zTT I J T U G d → U 0 9 = J 0 9 → zP (fX6_rests_L27 f (nI v) T) (fX7_rests_L16 f' (nI v) U) := by
  intro m
  induction m with
  | zero =>
    intro v f f' T U d hv hf hf' hT h9
    obtain ⟨f, rfl⟩ : ∃ x, f = x + 1 := ⟨f - 1, by omega⟩
    obtain ⟨f', rfl⟩ : ∃ x, f' = x + 1 := ⟨f' - 1, by omega⟩
    obtain ⟨U', b1, b2, -⟩ := zT_fin h hc hT h9
    have t : (60 : Int32) < nI v := nI_lt (a := 60) (by omega) (by omega)
    rw [fX6_rests_L27, fX7_rests_L16, if_pos t, if_pos t, b1, zxV_s, if_pos t]
    exact zP_ok b2
  | succ m ih =>
    intro v f f' T U d hv hf hf' hT h9
    obtain ⟨f, rfl⟩ : ∃ x, f = x + 1 := ⟨f - 1, by omega⟩
    obtain ⟨f', rfl⟩ : ∃ x, f' = x + 1 := ⟨f' - 1, by omega⟩
    have t : ¬ (60 : Int32) < nI v := nI_nlt (a := 60) (by omega) (by omega)
    have r10 : T 10 = I 10 := hT.x 10 (by omega) (by omega)
    obtain ⟨T', U', c, e1, e2, hT', hk, ec⟩ := zT_ps hc hT hG (by rw [h9]; exact zc14 hc)
    obtain ⟨x, hx, ex⟩ := zps_c (I 10 5) (G - 1) 0 (T 17) 0
    have h6 : G ≤ 6 := hc.2.2.2.1
    have ec' : c = nI x := ec.trans ex
    rw [fX6_rests_L27, fX7_rests_L16, if_neg t, if_neg t, r10, e1, e2, zxB_s, zxB_s, ec', nI_1]
    by_cases q : x = 0
    · subst q
      obtain ⟨U'', b1, b2, -⟩ := zT_fin h hc hT' (by rw [hk 9]; exact h9)
      have t0 : nI 0 = (0 : Int32) := rfl
      have t1 : nI 0 ≤ (0 : Int32) := by decide
      rw [if_pos t0, if_pos t1, b1, zxV_s, if_neg t]
      exact zP_ok b2
    · have t0 : ¬ nI x = 0 := nI_ne0 (by omega) (by omega)
      have t1 : ¬ nI x ≤ 0 := nI_nle (by omega) (by omega)
      rw [if_neg t0, if_neg t1]
      exact ih (v + 1) f f' T' U' d (by omega) (by omega) (by omega) hT' (by rw [hk 9]; exact h9)
theorem zop_rests {I J : zxI} (h : zR I J) : zP (fX6_rests I) (fX7_rests J) := by
  obtain ⟨⟨G, W, hc⟩, -⟩ := id h
  unfold fX6_rests fX7_rests
  simp only [zX_hM hc.1 hc.2.2.2.1, zxB_s, zi_b', hc.2.1, zM_hM hc.2.2.2.1]
  refine zP_ite (fun _ => zP_ok h) (fun q => ?_)
  obtain ⟨T, U, d, e1, e2, hT, -, h9⟩ := zT_0 hc
  rw [e1, e2, zxV_s, zxV_s]
  exact zrs_L h hc (by omega) 61 0 1000 1000 T U d (by omega) (by omega) (by omega) hT h9
theorem zcl_L {I J : zxI} {G W g : Nat} {x2 : Int32} (h : zR I J) (hc : zRc I J G W) (hg : g < G) : ∀ (m v f f' : Nat) (T U : zxI) (d : Nat), v + m = 61 → m < f → m < f' → zTT I J T U G d → U 0 9 = J 0 9 → zP (fX6_clears_L38 f (nI g) x2 (nI v) T) (fX7_clears_L29 f' (nI g) x2 (nI v) U) := by
  have h6 : G ≤ 6 := hc.2.2.2.1
  intro m
  induction m with
  | zero =>
    intro v f f' T U d hv hf hf' hT h9
    obtain ⟨f, rfl⟩ : ∃ x, f = x + 1 := ⟨f - 1, by omega⟩
    obtain ⟨f', rfl⟩ : ∃ x, f' = x + 1 := ⟨f' - 1, by omega⟩
    obtain ⟨U', b1, b2, -⟩ := zT_fin h hc hT h9
    have t : (60 : Int32) < nI v := nI_lt (a := 60) (by omega) (by omega)
    rw [fX6_clears_L38, fX7_clears_L29, if_pos t, if_pos t, b1, zxV_s, if_pos t]
    exact zP_ok b2
  | succ m ih =>
    intro v f f' T U d hv hf hf' hT h9
    obtain ⟨f, rfl⟩ : ∃ x, f = x + 1 := ⟨f - 1, by omega⟩
    obtain ⟨f', rfl⟩ : ∃ x, f' = x + 1 := ⟨f' - 1, by omega⟩
    have t : ¬ (60 : Int32) < nI v := nI_nlt (a := 60) (by omega) (by omega)
    have r10 : T 10 = I 10 := hT.x 10 (by omega) (by omega)
    obtain ⟨T', U', c, e1, e2, hT', hk, ec⟩ := zT_ps hc hT (by omega) (by rw [h9]; exact zc14 hc)
    have t2 := zq_in (show g < 6 by omega) (show 6 < 2 ^ 31 by decide)
    rw [fX6_clears_L38, fX7_clears_L29, if_neg t, if_neg t, if_pos t2, if_pos t2, zq_cl (show g < 2 ^ 31 by omega), r10, show T (zaF 1) = T 17 from rfl, hT.e g (by omega)]
    by_cases q : x2 < U 6 g
    · rw [if_pos q, if_neg (Int32.not_le.mpr q), e1, e2, zxB_s, zxB_s, nI_1]
      exact ih (v + 1) f f' T' U' d (by omega) (by omega) (by omega) hT' (by rw [hk 9]; exact h9)
    · obtain ⟨U'', b1, b2, -⟩ := zT_fin h hc hT h9
      rw [if_neg q, if_pos (Int32.not_lt.mp q), b1, zxV_s, if_neg t]
      exact zP_ok b2
theorem zop_clears {I J : zxI} (h : zR I J) (x1 x2 : Int32) : zP (fX6_clears x1 x2 I) (fX7_clears x1 x2 J) := by
  obtain ⟨⟨G, W, hc⟩, -⟩ := id h
  unfold fX6_clears fX7_clears
  simp only [zX_isG, zM_isG, zX_isF, zM_wi, zxB_s, zi_b, hc.1, hc.2.1]
  refine zP_ite (fun q => ?_) (fun _ => zP_ok h)
  refine zP_ite (fun q2 => ?_) (fun _ => zP_ok h)
  have h6 : G ≤ 6 := hc.2.2.2.1
  obtain ⟨g, hg, rfl⟩ := zq_of (by omega) q
  obtain ⟨T, U, d, e1, e2, hT, -, h9⟩ := zT_0 hc
  rw [e1, e2, zxV_s, zxV_s]
  exact zcl_L h hc hg 61 0 1000 1000 T U d (by omega) (by omega) (by omega) hT h9
