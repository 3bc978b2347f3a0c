/-! cells of sheets, copies -/
theorem zq_b {n : Nat} (hn : n < 2 ^ 31) : 0 ≤ nI n := nI_pos' hn
theorem zX_hc (k : Nat) (x y : Int32) (I : zxI) : fX5_hasCells k x y I = some (if 0 ≤ x ∧ x ≤ I (zsO k) 3 ∧ y ≤ I (zsO k) 3 - x then 1 else 0, I) := by
  unfold fX5_hasCells
  grind
theorem zq_hc1 {N x : Int32} (h0 : 0 ≤ N) (h6 : N ≤ 60) : (0 ≤ x ∧ x ≤ N ∧ 1 ≤ N - x) ↔ (0 ≤ x ∧ x ≤ N - 1) := by
  rw [Int32.le_iff_toInt_le] at h0 h6
  simp only [Int32.le_iff_toInt_le, Int32.toInt_sub, show (1 : Int32).toInt = 1 from rfl, show (0 : Int32).toInt = 0 from rfl, show (60 : Int32).toInt = 60 from rfl] at *
  have b1 := Int32.le_toInt x
  have b2 := Int32.toInt_lt x
  constructor
  · rintro ⟨a, b, c⟩
    rw [Int.bmod_eq_of_le (by omega) (by omega)] at c ⊢
    omega
  · rintro ⟨a, b⟩
    rw [Int.bmod_eq_of_le (by omega) (by omega)] at b ⊢
    omega
theorem zR_put {I J : zxI} (h : zR I J) {k i : Nat} {v : Int32} (hk : k < 4) (hi : i < 60) : zR (zxU I (zsC k) i v) (zxU J 3 (60 * k + i) v) := by
  obtain ⟨⟨G, W, hc⟩, hf⟩ := h
  refine ⟨⟨G, W, zRc_sh hc (fun q hq => zxU_q (zs_rg hk hq).2) (fun q hq => zxU_q (by omega))⟩, zRf_one (k := k) hf ?_ (fun l hl e => ⟨zxU_q (zs_ne e).2.2.1, zxU_q (zs_ne e).2.1⟩) (fun l hl e => ⟨by rw [zxU_q (by decide)], by rw [zxU_q (by decide)], fun j hj => zxU_k (by omega)⟩)⟩
  rcases hf k hk with ⟨z1, z2⟩ | ⟨z1, z2, z3, n, z4, z5, z6, z7⟩
  · exact Or.inl ⟨by rw [zxU_q zs_ne2.1]; exact z1, by rw [zxU_q (by decide)]; exact z2⟩
  · refine Or.inr ⟨by rw [zxU_q zs_ne2.1]; exact z1, by rw [zxU_q zs_ne2.1, zxU_q (by decide)]; exact z2, by rw [zxU_q zs_ne2.1]; exact z3, n, z4, by rw [zxU_q zs_ne2.1]; exact z5, by rw [zxU_q (by decide)]; exact z6, fun j hj => ?_⟩
    by_cases e : j = i
    · subst e
      rw [zxU_s, zxU_s]
    · rw [zxU_k (by omega), zxU_k e]
      exact z7 j hj
theorem zop_put {I J : zxI} (h : zR I J) (x1 x2 x3 : Int32) : zP (fX6_put x1 x2 x3 I) (fX7_put x1 x2 x3 J) := by
  have h := zR_fault h 0
  unfold fX6_put fX7_put fX6_faulted fX7_fails fX5_faultOfCells fX6_cutToLane
  generalize zxU I 0 10 0 = I at h ⊢
  generalize zxU J 0 0 0 = J at h ⊢
  simp only [zX_isS, zM_isS, zM_wi, zX_hc, zxB_s, zi_b]
  refine zP_ite (fun q => ?_) (fun _ => zP_ok h)
  obtain ⟨k, hk, rfl⟩ := zq_ofL (n := 3) rfl q
  have hk4 : k < 4 := by omega
  simp only [zq_in hk4 (show 4 < 2 ^ 31 by decide), if_true, zq_cl (show k < 2 ^ 31 by omega)]
  rcases h.2 k hk4 with ⟨z1, z2⟩ | ⟨z1, z2, ⟨t, ht, et⟩, n, z4, z5, z6, z7⟩
  · rw [z1, z2, if_pos (by decide : (0 : Int32) = 0), if_pos (by decide : (-9 : Int32) = -9)]
    exact zP_ok (zR_fault h 1)
  · have b1 : ¬ nI t = (-9 : Int32) := zq_neg9 ht
    rw [z1, z2, et, z5, z6, if_neg (by decide : ¬ (1 : Int32) = 0), if_pos (by decide : (0 : Int32) ≤ 1), if_neg b1]
    by_cases e : 0 ≤ x2 ∧ x2 ≤ nI n - 1
    · have e' := (zq_hc1 (zq_b (show n < 2 ^ 31 by omega)) (nI_le (b := 60) z4 (by decide))).mpr e
      have hn : 1 ≤ n := by
        rcases n with _ | n
        · exact absurd (Int32.le_trans e.1 e.2) (by decide)
        · omega
      obtain ⟨n, rfl⟩ : ∃ y, n = y + 1 := ⟨n - 1, by omega⟩
      rw [nI_pred] at e
      obtain ⟨i, hi, rfl⟩ := zq_ofL (x := x2) (M := nI n) (n := n) (nI_toInt (by omega)) e
      have e1 : (60 : Int32) * nI k + nI i = nI (60 * k + i) := by rw [show (60 : Int32) = nI 60 from rfl, pk_mul, nI_add]
      simp only [if_pos e', if_pos e, nI_pred, zi10, zi00, if_false, if_true, zxB_s, e1, zq_in (show 60 * k + i < 240 by omega) (show 240 < 2 ^ 31 by decide), zq_cl (show 60 * k + i < 2 ^ 31 by omega), zq_in (show i < 60 by omega) (show 60 < 2 ^ 31 by decide), zq_cl (show i < 2 ^ 31 by omega), et]
      by_cases t0 : nI t = 0
      · rw [if_pos t0, if_pos t0, zxB_s]
        exact zP_ok (zR_put h hk4 (by omega))
      · rw [if_neg t0, if_neg t0]
        by_cases t1 : nI t = 1
        · rw [if_pos t1, if_pos t1, zxB_s]
          exact zP_ok (zR_put h hk4 (by omega))
        · rw [if_neg t1, if_neg t1, zxB_s]
          exact zP_ok (zR_put h hk4 (by omega))
    · have e' : ¬ (0 ≤ x2 ∧ x2 ≤ nI n ∧ 1 ≤ nI n - x2) := fun z => e ((zq_hc1 (zq_b (show n < 2 ^ 31 by omega)) (nI_le (b := 60) z4 (by decide))).mp z)
      simp only [if_neg e', if_neg e, zxB_s, zi00, if_true]
      rw [if_neg (by decide : ¬ (3 : Int32) = 0)]
      exact zP_ok (zR_fault h 3)
theorem zop_cell {I J : zxI} (h : zR I J) (x1 x2 x3 : Int32) : zP (fX6_cell x1 x2 x3 I) (fX7_cell x1 x2 x3 J) := by
  have h := zR_fault h 0
  unfold fX6_cell fX7_cell fX6_faulted fX7_lost fX5_faultOfCells
  generalize zxU I 0 10 0 = I at h ⊢
  generalize zxU J 0 0 0 = J at h ⊢
  simp only [zX_isS, zM_isS, zX_isL, zM_isL, zM_wi, zX_hc, zxB_s, zi_b]
  refine zP_ite (fun q => ?_) (fun _ => zP_ok h)
  refine zP_ite (fun q3 => ?_) (fun _ => zP_ok h)
  obtain ⟨k, hk, rfl⟩ := zq_ofL (n := 3) rfl q
  have hk4 : k < 4 := by omega
  simp only [zq_in hk4 (show 4 < 2 ^ 31 by decide), if_true, zq_cl (show k < 2 ^ 31 by omega)]
  rcases h.2 k hk4 with ⟨z1, z2⟩ | ⟨z1, z2, ⟨t, ht, et⟩, n, z4, z5, z6, z7⟩
  · rw [z1, z2, if_pos (by decide : (0 : Int32) = 0), if_pos (by decide : (-9 : Int32) = -9)]
    exact zP_ok (zR_fault h 1)
  · have b1 : ¬ nI t = (-9 : Int32) := zq_neg9 ht
    rw [z1, z2, et, z5, z6, if_neg (by decide : ¬ (1 : Int32) = 0), if_neg b1, if_neg b1]
    by_cases e3 : nI t = x3
    · rw [if_pos e3, if_pos e3, if_pos (by decide : (0 : Int32) ≤ 1)]
      by_cases e : 0 ≤ x2 ∧ x2 ≤ nI n - 1
      · have e' := (zq_hc1 (zq_b (show n < 2 ^ 31 by omega)) (nI_le (b := 60) z4 (by decide))).mpr e
        have hn : 1 ≤ n := by
          rcases n with _ | n
          · exact absurd (Int32.le_trans e.1 e.2) (by decide)
          · omega
        obtain ⟨n, rfl⟩ : ∃ y, n = y + 1 := ⟨n - 1, by omega⟩
        rw [nI_pred] at e
        obtain ⟨i, hi, rfl⟩ := zq_ofL (x := x2) (M := nI n) (n := n) (nI_toInt (by omega)) e
        have e1 : (60 : Int32) * nI k + nI i = nI (60 * k + i) := by rw [show (60 : Int32) = nI 60 from rfl, pk_mul, nI_add]
        simp only [if_pos e', if_pos e, nI_pred, zi10, zi00, if_false, if_true, zxB_s, e1, zq_in (show 60 * k + i < 240 by omega) (show 240 < 2 ^ 31 by decide), zq_cl (show 60 * k + i < 2 ^ 31 by omega), zq_in (show i < 60 by omega) (show 60 < 2 ^ 31 by decide), zq_cl (show i < 2 ^ 31 by omega), z7 i (show i < 60 by omega)]
        exact zP_ok h
      · have e' : ¬ (0 ≤ x2 ∧ x2 ≤ nI n ∧ 1 ≤ nI n - x2) := fun z => e ((zq_hc1 (zq_b (show n < 2 ^ 31 by omega)) (nI_le (b := 60) z4 (by decide))).mp z)
        simp only [if_neg e', if_neg e, zxB_s, zi00, if_true]
        rw [if_neg (by decide : ¬ (3 : Int32) = 0)]
        exact zP_ok (zR_fault h 3)
    · rw [if_neg e3, if_neg e3]
      exact zP_ok (zR_fault h 2)
theorem zM_cpF {k i l j N : Nat} {J : zxI} (hA : 60 * k + i + N ≤ 240) (hB : 60 * l + j + N ≤ 240) (hc : ∀ c, c < N → ¬ (60 * l + j ≤ 60 * k + i + c ∧ 60 * k + i + c < 60 * l + j + c)) : ∀ (m c n : Nat), c + m = N → m < n → fX7_copy_L166 n (nI k) (nI i) (nI l) (nI j) (nI N) 0 (nI c) (zSR J 3 (va_cpy (J 3) (J 3) (60 * k + i) (60 * l + j) c)) = some (nI N, zSR J 3 (va_cpy (J 3) (J 3) (60 * k + i) (60 * l + j) N)) := by
  intro m
  induction m with
  | zero =>
    intro c n hm hn
    obtain ⟨n, rfl⟩ : ∃ x, n = x + 1 := ⟨n - 1, by omega⟩
    rw [fX7_copy_L166, if_pos (nI_le (by omega) (by omega)), show c = N by omega]
  | succ m ih =>
    intro c n hm hn
    obtain ⟨n, rfl⟩ : ∃ x, n = x + 1 := ⟨n - 1, by omega⟩
    have e1 : (60 : Int32) * nI k + nI i + nI c = nI (60 * k + i + c) := by rw [show (60 : Int32) = nI 60 from rfl, pk_mul, nI_add, nI_add]
    have e2 : (60 : Int32) * nI l + nI j + nI c = nI (60 * l + j + c) := by rw [show (60 : Int32) = nI 60 from rfl, pk_mul, nI_add, nI_add]
    rw [fX7_copy_L166, if_neg (nI_ge (by omega) (by omega)), if_pos (by decide), e1, e2, if_pos (zq_in (by omega) (by decide)), if_pos (zq_in (by omega) (by decide)), zq_cl (by omega), zq_cl (by omega), nI_1, zSR_U, zSR_SR, zSR_s]
    have e3 : upd (va_cpy (J 3) (J 3) (60 * k + i) (60 * l + j) c) (60 * l + j + c) (va_cpy (J 3) (J 3) (60 * k + i) (60 * l + j) c (60 * k + i + c)) = va_cpy (J 3) (J 3) (60 * k + i) (60 * l + j) (c + 1) := by
      funext q
      have h0 : va_cpy (J 3) (J 3) (60 * k + i) (60 * l + j) c (60 * k + i + c) = J 3 (60 * k + i + c) := by
        unfold va_cpy
        rw [if_neg (hc c (by omega))]
      rw [h0]
      by_cases e : q = 60 * l + j + c
      · subst e
        rw [upd_s]
        unfold va_cpy
        rw [if_pos (by omega)]
        congr 1
        omega
      · rw [upd_n e]
        unfold va_cpy
        by_cases e4 : 60 * l + j ≤ q ∧ q < 60 * l + j + c
        · rw [if_pos e4, if_pos (by omega)]
        · rw [if_neg e4, if_neg (by omega)]
    rw [e3]
    exact ih (c + 1) n (by omega) (by omega)
def zvb (r : Nat → Int32) (A B N c : Nat) : Nat → Int32 := fun q => if B + (N - c) ≤ q ∧ q < B + N then r (A + (q - B)) else r q
theorem zM_cpB {k i l j N : Nat} {J : zxI} (hA : 60 * k + i + N ≤ 240) (hB : 60 * l + j + N ≤ 240) (hc : ∀ c, c < N → ¬ (60 * l + j + (N - c) ≤ 60 * k + i + (N - 1 - c) ∧ 60 * k + i + (N - 1 - c) < 60 * l + j + N)) : ∀ (m c n : Nat), c + m = N → m < n → fX7_copy_L166 n (nI k) (nI i) (nI l) (nI j) (nI N) 1 (nI c) (zSR J 3 (zvb (J 3) (60 * k + i) (60 * l + j) N c)) = some (nI N, zSR J 3 (zvb (J 3) (60 * k + i) (60 * l + j) N N)) := by
  intro m
  induction m with
  | zero =>
    intro c n hm hn
    obtain ⟨n, rfl⟩ : ∃ x, n = x + 1 := ⟨n - 1, by omega⟩
    rw [fX7_copy_L166, if_pos (nI_le (by omega) (by omega)), show c = N by omega]
  | succ m ih =>
    intro c n hm hn
    obtain ⟨n, rfl⟩ : ∃ x, n = x + 1 := ⟨n - 1, by omega⟩
    have e0 : nI N - 1 - nI c = nI (N - 1 - c) := by
      obtain ⟨M, rfl⟩ : ∃ x, N = x + 1 := ⟨N - 1, by omega⟩
      rw [nI_pred, pk_sub (by omega), Nat.add_sub_cancel]
    have e1 : (60 : Int32) * nI k + nI i + nI (N - 1 - c) = nI (60 * k + i + (N - 1 - c)) := by rw [show (60 : Int32) = nI 60 from rfl, pk_mul, nI_add, nI_add]
    have e2 : (60 : Int32) * nI l + nI j + nI (N - 1 - c) = nI (60 * l + j + (N - 1 - c)) := by rw [show (60 : Int32) = nI 60 from rfl, pk_mul, nI_add, nI_add]
    rw [fX7_copy_L166, if_neg (nI_ge (by omega) (by omega)), if_neg (by decide), e0, e1, e2, if_pos (zq_in (by omega) (by decide)), if_pos (zq_in (by omega) (by decide)), zq_cl (by omega), zq_cl (by omega), nI_1, zSR_U, zSR_SR, zSR_s]
    have e3 : upd (zvb (J 3) (60 * k + i) (60 * l + j) N c) (60 * l + j + (N - 1 - c)) (zvb (J 3) (60 * k + i) (60 * l + j) N c (60 * k + i + (N - 1 - c))) = zvb (J 3) (60 * k + i) (60 * l + j) N (c + 1) := by
      funext q
      have h0 : zvb (J 3) (60 * k + i) (60 * l + j) N c (60 * k + i + (N - 1 - c)) = J 3 (60 * k + i + (N - 1 - c)) := by
        unfold zvb
        rw [if_neg (hc c (by omega))]
      rw [h0]
      by_cases e : q = 60 * l + j + (N - 1 - c)
      · subst e
        rw [upd_s]
        unfold zvb
        rw [if_pos (by omega)]
        congr 1
        omega
      · rw [upd_n e]
        unfold zvb
        by_cases e4 : 60 * l + j + (N - c) ≤ q ∧ q < 60 * l + j + N
        · rw [if_pos e4, if_pos (by omega)]
        · rw [if_neg e4, if_neg (by omega)]
    rw [e3]
    exact ih (c + 1) n (by omega) (by omega)
