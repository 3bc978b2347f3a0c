/-! strengths and kinds by the readings -/
theorem upd_upd {f : Nat → Int32} {k : Nat} {v w : Int32} : upd (upd f k v) k w = upd f k w := by
  funext j
  by_cases e : j = k <;> simp [upd, e]
theorem zst_L {I J : zxI} (h : zR I J) {g : Nat} (hg : g < 6) : ∀ (m v n n' : Nat) (a x : Int32), v + m = 10 → m < n → m < n' → ∃ A, fX6_strengths_L14 n (nI g) a (nI v) I = some (A, I) ∧ fX7_strengths_L22 n' (nI g) (J 7 g) a (nI v) (zSR J 7 (upd (J 7) g x)) = some (A, J) := by
  obtain ⟨⟨G, W, c1, c2, c3, c4, c5, c6, c7, c8, c9, c10, c11, c12, c13, c14, c15, c16, c17, c18, c19, c20, c21, c22, c23, c24, ⟨c, hc, ec⟩, c26, c27, c28, c29⟩, hf⟩ := id h
  intro m
  induction m with
  | zero =>
    intro v n n' a x hv hn hn'
    obtain ⟨n, rfl⟩ : ∃ x, n = x + 1 := ⟨n - 1, by omega⟩
    obtain ⟨n', rfl⟩ : ∃ x, n' = x + 1 := ⟨n' - 1, by omega⟩
    have e9 : (9 : Int32) < nI v := nI_lt (a := 9) (by omega) (by omega)
    refine ⟨a, ?_, ?_⟩
    · rw [fX6_strengths_L14, if_pos e9]
    · rw [fX7_strengths_L22, if_pos e9, if_pos (zq_in hg (by decide)), zq_cl (by omega), zSR_U, zSR_s, zSR_SR, upd_upd, upd_id, zSR_id]
  | succ m ih =>
    intro v n n' a x hv hn hn'
    obtain ⟨n, rfl⟩ : ∃ x, n = x + 1 := ⟨n - 1, by omega⟩
    obtain ⟨n', rfl⟩ : ∃ x, n' = x + 1 := ⟨n' - 1, by omega⟩
    have e9 : ¬ (9 : Int32) < nI v := nI_nlt (b := v) (a := 9) (by omega) (by decide)
    have hX := zX_asL (I := I) (v := zbe (I 12 g) (nI v)) (be := fun j => if j = g then zbe (I 12 g) (nI v) else zbe (I 12 j) (I 13 j)) hg (fun j _ => rfl) c29 ec hc c 0 1000 (by omega) (by omega)
    have hM := zM_asL (I := zSR J 7 (upd (J 7) g (nI v))) (c := c) (be := fun j => if j = g then zbe (I 12 g) (nI v) else zbe (I 12 j) (I 13 j)) (fun j _ => by
        simp (disch := decide) only [zSR_n, zSR_s, c17, c19]
        by_cases e : j = g
        · subst e
          rw [if_pos rfl, upd_s]
        · rw [if_neg e, upd_n e]) (by simp (disch := decide) only [zSR_n, c17]; exact c22) (by simp (disch := decide) only [zSR_n, c26]; exact c29) (by simp (disch := decide) only [zSR_n, c24]; exact ec) hc c 0 1000 (by omega) (by omega)
    simp (disch := decide) only [zSR_n, c26, c27, c28] at hM
    rw [fX6_strengths_L14, fX7_strengths_L22, if_neg e9, if_neg e9]
    simp only [zq_in hg (show 6 < 2 ^ 31 by decide), if_true, zq_cl (show g < 2 ^ 31 by omega), zX_bearing, zxB_s, zSR_U, zSR_s, zSR_SR, upd_upd, fX3_areSo, fX7_areSo]
    rw [show (0 : Int32) = nI 0 from rfl, hX, hM]
    simp only [zxB_s, nI_1]
    rw [show nI 0 = (0 : Int32) from rfl, Int32.or_zero]
    by_cases e : zas (I 32) (I 33) (I 34) (fun j => if j = g then zbe (I 12 g) (nI v) else zbe (I 12 j) (I 13 j)) c 0 = 0
    · simp only [if_pos e]
      exact ih (v + 1) n n' a (nI v) (by omega) (by omega) (by omega)
    · simp only [if_neg e]
      exact ih (v + 1) n n' _ (nI v) (by omega) (by omega) (by omega)
theorem zop_strengths {I J : zxI} (h : zR I J) (x1 : Int32) : zP (fX6_strengths x1 I) (fX7_strengths x1 J) := by
  obtain ⟨⟨G, W, c1, c2, c3, c4, -⟩, hf⟩ := id h
  unfold fX6_strengths fX7_strengths
  simp only [zX_isG, zM_isG, zxB_s, zi_b, c1, c2]
  refine zP_ite (fun q => ?_) (fun _ => zP_ok h)
  obtain ⟨g, hg, rfl⟩ := zq_of (by omega) q
  rw [if_pos (zq_in (show g < 6 by omega) (by decide)), zq_cl (by omega)]
  obtain ⟨A, e1, e2⟩ := zst_L h (show g < 6 by omega) 9 1 1000 1000 0 (J 7 g) (by omega) (by omega) (by omega)
  rw [upd_id, zSR_id] at e2
  exact ⟨A, I, J, e1, e2, h⟩
theorem zkd_L {I J : zxI} (h : zR I J) {g : Nat} (hg : g < 6) : ∀ (m v n n' : Nat) (a x : Int32), v + m = 3 → m < n → m < n' → ∃ A, fX6_kinds_L14 n (nI g) a (nI v) I = some (A, I) ∧ fX7_kinds_L22 n' (nI g) (J 5 g) a (nI v) (zSR J 5 (upd (J 5) g x)) = some (A, J) := by
  obtain ⟨⟨G, W, c1, c2, c3, c4, c5, c6, c7, c8, c9, c10, c11, c12, c13, c14, c15, c16, c17, c18, c19, c20, c21, c22, c23, c24, ⟨c, hc, ec⟩, c26, c27, c28, c29⟩, hf⟩ := id h
  intro m
  induction m with
  | zero =>
    intro v n n' a x hv hn hn'
    obtain ⟨n, rfl⟩ : ∃ x, n = x + 1 := ⟨n - 1, by omega⟩
    obtain ⟨n', rfl⟩ : ∃ x, n' = x + 1 := ⟨n' - 1, by omega⟩
    have e9 : (3 : Int32) ≤ nI v := nI_le (a := 3) (by omega) (by omega)
    refine ⟨a, ?_, ?_⟩
    · rw [fX6_kinds_L14, if_pos e9]
    · rw [fX7_kinds_L22, if_pos e9, if_pos (zq_in hg (by decide)), zq_cl (by omega), zSR_U, zSR_s, zSR_SR, upd_upd, upd_id, zSR_id]
  | succ m ih =>
    intro v n n' a x hv hn hn'
    obtain ⟨n, rfl⟩ : ∃ x, n = x + 1 := ⟨n - 1, by omega⟩
    obtain ⟨n', rfl⟩ : ∃ x, n' = x + 1 := ⟨n' - 1, by omega⟩
    have e9 : ¬ (3 : Int32) ≤ nI v := nI_ge (a := v) (b := 3) (by omega) (by decide)
    have hK : zK3 (nI v) := by
      rcases (show v = 0 ∨ v = 1 ∨ v = 2 by omega) with rfl | rfl | rfl
      · exact Or.inl rfl
      · exact Or.inr (Or.inl rfl)
      · exact Or.inr (Or.inr rfl)
    have hX := zX_asL (I := I) (v := zbe (nI v) (I 13 g)) (be := fun j => if j = g then zbe (nI v) (I 13 g) else zbe (I 12 j) (I 13 j)) hg (fun j _ => rfl) c29 ec hc c 0 1000 (by omega) (by omega)
    have hM := zM_asL (I := zSR J 5 (upd (J 5) g (nI v))) (c := c) (be := fun j => if j = g then zbe (nI v) (I 13 g) else zbe (I 12 j) (I 13 j)) (fun j _ => by
        simp (disch := decide) only [zSR_n, zSR_s, c17, c19]
        by_cases e : j = g
        · subst e
          rw [if_pos rfl, upd_s]
        · rw [if_neg e, upd_n e]) (fun j hj => by
          simp only [zSR_s, c17]
          by_cases e : j = g
          · subst e
            rw [upd_s]; exact hK
          · rw [upd_n e]; exact c22 j hj) (by simp (disch := decide) only [zSR_n, c26]; exact c29) (by simp (disch := decide) only [zSR_n, c24]; exact ec) hc c 0 1000 (by omega) (by omega)
    simp (disch := decide) only [zSR_n, c26, c27, c28] at hM
    rw [fX6_kinds_L14, fX7_kinds_L22, if_neg e9, if_neg e9]
    simp only [zq_in hg (show 6 < 2 ^ 31 by decide), if_true, zq_cl (show g < 2 ^ 31 by omega), zX_bearing, zxB_s, zSR_U, zSR_s, zSR_SR, upd_upd, fX3_areSo, fX7_areSo]
    rw [show (0 : Int32) = nI 0 from rfl, hX, hM]
    simp only [zxB_s, nI_1]
    rw [show nI 0 = (0 : Int32) from rfl, Int32.or_zero]
    by_cases e : zas (I 32) (I 33) (I 34) (fun j => if j = g then zbe (nI v) (I 13 g) else zbe (I 12 j) (I 13 j)) c 0 = 0
    · simp only [if_pos e]
      exact ih (v + 1) n n' a (nI v) (by omega) (by omega) (by omega)
    · simp only [if_neg e]
      exact ih (v + 1) n n' _ (nI v) (by omega) (by omega) (by omega)
theorem zop_kinds {I J : zxI} (h : zR I J) (x1 : Int32) : zP (fX6_kinds x1 I) (fX7_kinds x1 J) := by
  obtain ⟨⟨G, W, c1, c2, c3, c4, -⟩, hf⟩ := id h
  unfold fX6_kinds fX7_kinds
  simp only [zX_isG, zM_isG, zxB_s, zi_b, c1, c2]
  refine zP_ite (fun q => ?_) (fun _ => zP_ok h)
  obtain ⟨g, hg, rfl⟩ := zq_of (by omega) q
  rw [if_pos (zq_in (show g < 6 by omega) (by decide)), zq_cl (by omega)]
  obtain ⟨A, e1, e2⟩ := zkd_L h (show g < 6 by omega) 3 0 1000 1000 0 (J 5 g) (by omega) (by omega) (by omega)
  rw [upd_id, zSR_id] at e2
  exact ⟨A, I, J, e1, e2, h⟩
