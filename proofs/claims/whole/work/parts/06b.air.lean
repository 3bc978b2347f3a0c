/-! air: passing, dropping, breathing, on both sides -/
theorem za_ne {j q : Nat} (h : q < 14) : zaF j ≠ q := by unfold zaF; omega
theorem za_ne2 {j q : Nat} (h : q < 14) : zaO j ≠ q := by unfold zaO; omega
theorem za_ne3 {i j : Nat} : zaF i ≠ zaO j := by unfold zaF zaO; omega
theorem za_inj {i j : Nat} (h : i ≠ j) : zaF i ≠ zaF j := by unfold zaF; omega
theorem za_injO {i j : Nat} (h : i ≠ j) : zaO i ≠ zaO j := by unfold zaO; omega
theorem zX_passL {j G : Nat} {dr : Int32} : ∀ (m k n : Nat) (c : Int32) (I : zxI), I 10 0 = nI G → G ≤ 6 → (k + m + 1 = G ∨ (m = 0 ∧ G ≤ k + 1)) → k ≤ 6 → zF (I (zaF j)) → m < n → fX2_passAir_L5 j n dr c (nI k) I = some ((zps dr m k (I (zaF j)) c).2, zSR I (zaF j) (zps dr m k (I (zaF j)) c).1) := by
  intro m
  induction m with
  | zero =>
    intro k n c I hG h6 hm hk hF hn
    obtain ⟨n, rfl⟩ : ∃ n', n = n' + 1 := ⟨n - 1, by omega⟩
    rw [fX2_passAir_L5, hG, if_pos (zq_gm (by omega) (by omega))]
    simp only [zps, zSR_id]
  | succ m ih =>
    intro k n c I hG h6 hm hk hF hn
    obtain ⟨n, rfl⟩ : ∃ n', n = n' + 1 := ⟨n - 1, by omega⟩
    have hkG : k + 1 < G := by omega
    have h1 : k < 2 ^ 31 := by omega
    have h2 : k + 1 < 2 ^ 31 := by omega
    obtain ⟨u, hu, eu⟩ := hF k (by omega)
    obtain ⟨v, hv, ev⟩ := hF (k + 1) (by omega)
    have ab := zq_ab u hu v hv
    have mv := zq_mv u hu v hv
    have hFF := zps_F dr 1 k (I (zaF j)) c (by omega) hF
    rw [fX2_passAir_L5, hG, if_neg (zq_gn hkG (by omega)), if_pos (zq_in (show k < 6 by omega) (by decide))]
    simp only [nI_1, zq_cl h1, zq_cl h2]
    rw [if_pos (zq_in (show k + 1 < 6 by omega) (by decide))]
    unfold zps
    by_cases c1 : ((dr >>> (nI k &&& 31)) &&& 1) = 1
    · rw [if_pos c1]
      by_cases c2 : 1 < I (zaF j) k - I (zaF j) (k + 1) ∨ I (zaF j) k - I (zaF j) (k + 1) < -1
      · have c3 : ¬ ((if 0 ≤ I (zaF j) k - I (zaF j) (k + 1) then I (zaF j) k - I (zaF j) (k + 1) else 0 - (I (zaF j) k - I (zaF j) (k + 1))) < 2) := by
          rw [eu, ev] at c2 ⊢
          exact fun z => ab.mp z c2
        rw [if_neg c3, if_pos (And.intro c1 c2)]
        by_cases c4 : 0 < I (zaF j) k - I (zaF j) (k + 1)
        · rw [if_neg (Int32.not_le.mpr c4), if_pos c4]
          simp only [zSR_U, zSR_s, zSR_SR, upd_n (show k + 1 ≠ k by omega)]
          rw [ih (k + 1) n _ _ (by rw [zSR_n (Ne.symm (za_ne (by omega)))]; exact hG) h6 (by omega) (by omega) (by
            rw [zSR_s]
            have := zps_F dr 1 k (I (zaF j)) c (by omega) hF
            unfold zps at this
            rw [if_pos (And.intro c1 c2), if_pos c4] at this
            exact this) (by omega)]
          simp only [zSR_s, zSR_SR]
        · rw [if_pos (Int32.not_lt.mp c4), if_neg c4]
          simp only [zSR_U, zSR_s, zSR_SR, upd_n (show k + 1 ≠ k by omega)]
          rw [ih (k + 1) n _ _ (by rw [zSR_n (Ne.symm (za_ne (by omega)))]; exact hG) h6 (by omega) (by omega) (by
            rw [zSR_s]
            have := zps_F dr 1 k (I (zaF j)) c (by omega) hF
            unfold zps at this
            rw [if_pos (And.intro c1 c2), if_neg c4] at this
            exact this) (by omega)]
          simp only [zSR_s, zSR_SR]
      · have c3 : (if 0 ≤ I (zaF j) k - I (zaF j) (k + 1) then I (zaF j) k - I (zaF j) (k + 1) else 0 - (I (zaF j) k - I (zaF j) (k + 1))) < 2 := by
          rw [eu, ev] at c2 ⊢
          exact ab.mpr c2
        rw [if_pos c3, if_neg (fun z => c2 z.2)]
        exact ih (k + 1) n c I hG h6 (by omega) (by omega) hF (by omega)
    · rw [if_neg c1, if_neg (fun z => c1 z.1)]
      exact ih (k + 1) n c I hG h6 (by omega) (by omega) hF (by omega)
theorem zX_pass {j G : Nat} {dr : Int32} {I : zxI} (hG : I 10 0 = nI G) (h6 : G ≤ 6) (hF : zF (I (zaF j))) : fX2_passAir j dr I = some ((zps dr (G - 1) 0 (I (zaF j)) 0).2, zSR I (zaF j) (zps dr (G - 1) 0 (I (zaF j)) 0).1) :=
  zX_passL (G - 1) 0 1000 0 I hG h6 (by omega) (by omega) hF (by omega)
theorem zM_passL {G : Nat} : ∀ (m k n : Nat) (c : Int32) (I : zxI), I 0 5 = nI G → G ≤ 6 → (k + m + 1 = G ∨ (m = 0 ∧ G ≤ k + 1)) → k ≤ 6 → m < n → fX7_pass_L4 n c (nI k) I = some ((zps (I 0 9) m k (I 6) c).2, zSR I 6 (zps (I 0 9) m k (I 6) c).1) := by
  intro m
  induction m with
  | zero =>
    intro k n c I hG h6 hm hk hn
    obtain ⟨n, rfl⟩ : ∃ n', n = n' + 1 := ⟨n - 1, by omega⟩
    rw [fX7_pass_L4, hG, if_pos (zq_gm (by omega) (by omega))]
    simp only [zps, zSR_id]
  | succ m ih =>
    intro k n c I hG h6 hm hk hn
    obtain ⟨n, rfl⟩ : ∃ n', n = n' + 1 := ⟨n - 1, by omega⟩
    have hkG : k + 1 < G := by omega
    have h1 : k < 2 ^ 31 := by omega
    have h2 : k + 1 < 2 ^ 31 := by omega
    have e9 : ∀ r, (zSR I 6 r) 0 9 = I 0 9 := fun r => by rw [zSR_n (by decide)]
    rw [fX7_pass_L4, hG, if_neg (zq_gn hkG (by omega)), if_pos (zq_in (show k < 6 by omega) (by decide))]
    simp only [nI_1, zq_cl h1, zq_cl h2]
    rw [if_pos (zq_in (show k + 1 < 6 by omega) (by decide))]
    unfold zps fX7_isOf
    by_cases c1 : ((I 0 9 >>> (nI k &&& 31)) &&& 1) = 1
    · rw [if_pos c1]
      simp only [zxB]
      rw [if_neg (by decide)]
      by_cases c2 : 1 < I 6 k - I 6 (k + 1)
      · have c4 : 0 < I 6 k - I 6 (k + 1) := Int32.lt_trans (by decide) c2
        have c5 : 1 < I 6 k - I 6 (k + 1) ∨ I 6 k - I 6 (k + 1) < -1 := Or.inl c2
        rw [if_pos c2, if_pos (And.intro c1 c5), if_neg (Int32.not_le.mpr c4), if_pos c4]
        simp only [zSR_U, zSR_s, zSR_SR, upd_n (show k + 1 ≠ k by omega)]
        rw [ih (k + 1) n _ _ (by rw [zSR_n (by decide)]; exact hG) h6 (by omega) (by omega) (by omega)]
        simp only [zSR_s, zSR_SR, e9]
      · rw [if_neg c2]
        by_cases c3 : I 6 k - I 6 (k + 1) < -1
        · have c4 : ¬ 0 < I 6 k - I 6 (k + 1) := fun z => absurd (Int32.lt_trans z c3) (by decide)
          have c5 : 1 < I 6 k - I 6 (k + 1) ∨ I 6 k - I 6 (k + 1) < -1 := Or.inr c3
          rw [if_neg (Int32.not_le.mpr c3), if_pos (And.intro c1 c5), if_pos (Int32.not_lt.mp c4), if_neg c4]
          simp only [zSR_U, zSR_s, zSR_SR, upd_n (show k + 1 ≠ k by omega)]
          rw [ih (k + 1) n _ _ (by rw [zSR_n (by decide)]; exact hG) h6 (by omega) (by omega) (by omega)]
          simp only [zSR_s, zSR_SR, e9]
        · rw [if_pos (Int32.not_lt.mp c3), if_neg (fun z => z.2.elim c2 c3)]
          exact ih (k + 1) n c I hG h6 (by omega) (by omega) (by omega)
    · rw [if_neg c1, if_neg (fun z => c1 z.1)]
      simp only [zxB]
      rw [if_pos (by decide)]
      exact ih (k + 1) n c I hG h6 (by omega) (by omega) (by omega)
theorem zM_pass {G : Nat} {I : zxI} (hG : I 0 5 = nI G) (h6 : G ≤ 6) : fX7_pass I = some ((zps (I 0 9) (G - 1) 0 (I 6) 0).2, zSR I 6 (zps (I 0 9) (G - 1) 0 (I 6) 0).1) :=
  zM_passL (G - 1) 0 1000 0 I hG h6 (by omega) (by omega) (by omega)
