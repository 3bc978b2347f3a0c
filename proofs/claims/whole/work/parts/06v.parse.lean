/-! texts: what is read -/
def zkl (x : Int32) : Int32 := if x = 98 then 2 else if x = 103 then 0 else if x = 110 then 1 else -9
def zft (s : Nat) (x : Int32) : Bool := if s = 0 then decide (x = 59) else if s = 1 then decide (¬ zkl x = -9) else if s = 2 then decide (48 ≤ x ∧ x ≤ 57) else if s = 3 then decide (49 ≤ x ∧ x ≤ 57) else decide (48 ≤ x ∧ x ≤ 49)
theorem zX_kl (x : Int32) (I : zxI) : fX6_kindOfLetter x I = some (zkl x, I) := by
  unfold fX6_kindOfLetter zkl
  repeat' split
  all_goals rfl
theorem zX_dg (x a b : Int32) (I : zxI) : fX6_isDigit x a b I = some (if 48 + a ≤ x ∧ x ≤ 48 + b then 1 else 0, I) := by
  unfold fX6_isDigit
  by_cases q : x < 48 + a
  · rw [if_pos q, if_neg (fun z => absurd z.1 (Int32.not_le.mpr q))]
  · rw [if_neg q]
    by_cases q2 : 48 + b < x
    · rw [if_pos q2, if_neg (fun z => absurd z.2 (Int32.not_le.mpr q2))]
    · rw [if_neg q2, if_pos (And.intro (Int32.not_lt.mp q) (Int32.not_lt.mp q2))]
theorem zi01 {c : Prop} [Decidable c] {I : zxI} : (if (if c then (1 : Int32) else 0) = 0 ∨ (if c then (1 : Int32) else 0) = 1 then some ((if c then (1 : Int32) else 0), I) else none) = some (if decide c = true then 1 else 0, I) := by
  by_cases q : c
  · simp only [if_pos q, decide_eq_true q, if_true]
    rfl
  · simp only [if_neg q, decide_eq_false q]
    rfl
theorem zX_fit {s : Nat} (hs : s < 5) (x : Int32) (I : zxI) : fX6_fitsGallery (nI s) x I = some (if zft s x = true then 1 else 0, I) := by
  rcases (show s = 0 ∨ s = 1 ∨ s = 2 ∨ s = 3 ∨ s = 4 by omega) with e | e | e | e | e <;> subst e
  · unfold fX6_fitsGallery
    rw [if_pos (by decide : nI 0 = (0 : Int32))]
    show _ = some (if decide (x = 59) = true then 1 else 0, I)
    by_cases q : x = 59
    · rw [if_pos q, if_pos (decide_eq_true q)]
    · rw [if_neg q, if_neg (by rw [decide_eq_false q]; decide)]
  · unfold fX6_fitsGallery
    rw [if_neg (by decide : ¬ nI 1 = (0 : Int32)), if_pos (by decide : nI 1 = (1 : Int32)), zX_kl, zxB_s]
    show _ = some (if decide (¬ zkl x = -9) = true then 1 else 0, I)
    by_cases q : zkl x = -9
    · rw [if_pos q, if_neg (by rw [decide_eq_false (fun z => z q)]; decide)]
    · rw [if_neg q, if_pos (decide_eq_true q)]
  · unfold fX6_fitsGallery
    rw [if_neg (by decide : ¬ nI 2 = (0 : Int32)), if_neg (by decide : ¬ nI 2 = (1 : Int32)), if_pos (by decide : nI 2 = (2 : Int32)), zX_dg, zxB_s, zi01]
    rfl
  · unfold fX6_fitsGallery
    rw [if_neg (by decide : ¬ nI 3 = (0 : Int32)), if_neg (by decide : ¬ nI 3 = (1 : Int32)), if_neg (by decide : ¬ nI 3 = (2 : Int32)), if_pos (by decide : nI 3 = (3 : Int32)), zX_dg, zxB_s, zi01]
    rfl
  · unfold fX6_fitsGallery
    rw [if_neg (by decide : ¬ nI 4 = (0 : Int32)), if_neg (by decide : ¬ nI 4 = (1 : Int32)), if_neg (by decide : ¬ nI 4 = (2 : Int32)), if_neg (by decide : ¬ nI 4 = (3 : Int32)), zX_dg, zxB_s, zi01]
    rfl
/-- the cells of a text of N codes: at i of the class's sheet k, at B of the reference's cells -/
def zcX (I : zxI) (k i N : Nat) (c : Nat → Int32) : Prop := i + N ≤ 60 ∧ k < 4 ∧ ∀ q, q < N → I (zsC k) (i + q) = c q
def zcM (J : zxI) (B N : Nat) (c : Nat → Int32) : Prop := B + N ≤ 240 ∧ ∀ q, q < N → J 3 (B + q) = c q
/-- rows 8, 9 and the places 14, 15, 16 may change -/
def zNf (J J' : zxI) : Prop := (∀ q, q ≠ 0 → q ≠ 8 → q ≠ 9 → J' q = J q) ∧ ∀ k, k ≠ 14 → k ≠ 15 → k ≠ 16 → J' 0 k = J 0 k
theorem zNf_r {J : zxI} : zNf J J := ⟨fun _ _ _ _ => rfl, fun _ _ _ _ => rfl⟩
theorem zNf_t {J J' J'' : zxI} (h : zNf J J') (h' : zNf J' J'') : zNf J J'' := ⟨fun q a b c => (h'.1 q a b c).trans (h.1 q a b c), fun k a b c => (h'.2 k a b c).trans (h.2 k a b c)⟩
theorem zNf_0 {J : zxI} {k : Nat} {v : Int32} (h : k = 14 ∨ k = 15 ∨ k = 16) : zNf J (zxU J 0 k v) := ⟨fun q a _ _ => zxU_q a, fun j a b c => zxU_k (by omega)⟩
theorem zNf_q {J : zxI} {q k : Nat} {v : Int32} (h : q = 8 ∨ q = 9) : zNf J (zxU J q k v) := ⟨fun q' a b c => zxU_q (by omega), fun j a b c => by rw [zxU_q (by omega)]⟩
theorem zcM_f {J J' : zxI} {B N : Nat} {c : Nat → Int32} (h : zcM J B N c) (h' : zNf J J') : zcM J' B N c := ⟨h.1, fun q hq => by rw [h'.1 3 (by decide) (by decide) (by decide)]; exact h.2 q hq⟩
theorem zM_sg {J : zxI} {B N a : Nat} {c : Nat → Int32} {x : Int32} (h : zcM J B N c) (h14 : J 0 14 = nI (B + a)) (ha : a ≤ N) : fX7_isSign (nI (B + N)) x J = (if a < N ∧ c a = x then some (1, zxU J 0 14 (nI (B + a + 1))) else some (0, J)) := by
  unfold fX7_isSign
  have hB := h.1
  rw [h14]
  by_cases q : a < N
  · have t : ¬ nI (B + N) ≤ nI (B + a) := nI_ge (by omega) (by omega)
    rw [if_neg t, if_pos (zq_in (show B + a < 240 by omega) (by decide)), zq_cl (show B + a < 2 ^ 31 by omega), h.2 a q, nI_1]
    by_cases q2 : c a = x
    · rw [if_pos q2, if_pos (And.intro q q2)]
    · rw [if_neg q2, if_neg (fun z => q2 z.2)]
  · have t : nI (B + N) ≤ nI (B + a) := nI_le (by omega) (by omega)
    rw [if_pos t, if_neg (fun z => q z.1)]
theorem zM_dgt {J : zxI} {B N a : Nat} {c : Nat → Int32} {lo hi : Int32} (h : zcM J B N c) (h14 : J 0 14 = nI (B + a)) (ha : a ≤ N) : fX7_digit (nI (B + N)) lo hi J = (if a < N ∧ (48 + lo ≤ c a ∧ c a ≤ 48 + hi) then some (c a - 48, zxU J 0 14 (nI (B + a + 1))) else some (-9, J)) := by
  unfold fX7_digit
  have hB := h.1
  rw [h14]
  by_cases q : a < N
  · have t : ¬ nI (B + N) ≤ nI (B + a) := nI_ge (by omega) (by omega)
    rw [if_neg t, if_pos (zq_in (show B + a < 240 by omega) (by decide)), zq_cl (show B + a < 2 ^ 31 by omega), h.2 a q, zM_wi, zxB_s, zi_b]
    by_cases q2 : 48 + lo ≤ c a ∧ c a ≤ 48 + hi
    · rw [if_pos q2, if_pos (And.intro q q2)]
      simp only [zxU_s, h14, nI_1, nI_pred, zq_in (show B + a < 240 by omega) (show 240 < 2 ^ 31 by decide), if_true, zq_cl (show B + a < 2 ^ 31 by omega), zxU_q (show 3 ≠ 0 by decide), h.2 a q]
    · rw [if_neg q2, if_neg (fun z => q2 z.2)]
  · have t : nI (B + N) ≤ nI (B + a) := nI_le (by omega) (by omega)
    rw [if_pos t, if_neg (fun z => q z.1)]
theorem zdg_of {x : Int32} (h : 48 ≤ x ∧ x ≤ 57) : ∃ v, v < 10 ∧ x - 48 = nI v := by
  obtain ⟨n, hn, rfl⟩ := zq_ofL (x := x) (M := 57) (n := 57) rfl ⟨Int32.le_trans (by decide) h.1, h.2⟩
  have h48 : 48 ≤ n := (nI_leI (a := 48) (b := n) (by decide) (by omega)).mp h.1
  refine ⟨n - 48, by omega, ?_⟩
  rw [show (48 : Int32) = nI 48 from rfl, pk_sub h48]
theorem zdg_n9 {x : Int32} (h : 48 ≤ x ∧ x ≤ 57) : ¬ x - 48 = -9 := by
  obtain ⟨v, hv, e⟩ := zdg_of h
  rw [e]
  have : ∀ v, v < 10 → ¬ nI v = (-9 : Int32) := by decide
  exact this v hv
/-! words -/
theorem zX_wdL {I : zxI} {k i N : Nat} {c : Nat → Int32} (h : zcX I k i N c) : ∀ (m w f : Nat), w + m = 4 → m < f → (∀ w', w' < w → 1 + w' < N ∧ (48 ≤ c (1 + w') ∧ c (1 + w') ≤ 57)) → ∃ W, W ≤ 4 ∧ w ≤ W ∧ fX6_wordsOfText_L2 k f (nI i) (nI N) (nI w) I = some (nI W, I) ∧ (∀ w', w' < W → 1 + w' < N ∧ (48 ≤ c (1 + w') ∧ c (1 + w') ≤ 57)) ∧ (W = 4 ∨ ¬ (1 + W < N ∧ (48 ≤ c (1 + W) ∧ c (1 + W) ≤ 57))) := by
  obtain ⟨hi, hk, hc⟩ := h
  intro m
  induction m with
  | zero =>
    intro w f hw hf hp
    obtain ⟨f, rfl⟩ : ∃ x, f = x + 1 := ⟨f - 1, by omega⟩
    have t : (4 : Int32) ≤ nI w := nI_le (a := 4) (by omega) (by omega)
    refine ⟨w, by omega, Nat.le_refl _, ?_, hp, Or.inl (by omega)⟩
    rw [fX6_wordsOfText_L2, if_pos t]
  | succ m ih =>
    intro w f hw hf hp
    obtain ⟨f, rfl⟩ : ∃ x, f = x + 1 := ⟨f - 1, by omega⟩
    have t : ¬ (4 : Int32) ≤ nI w := nI_ge (b := 4) (by omega) (by decide)
    have e1 : (1 : Int32) + nI w = nI (1 + w) := by rw [show (1 : Int32) = nI 1 from rfl, nI_add]
    have e2 : nI i + 1 + nI w = nI (i + (1 + w)) := by rw [nI_1, nI_add, Nat.add_assoc]
    rw [fX6_wordsOfText_L2, if_neg t, e1, e2]
    by_cases q : N ≤ 1 + w
    · have t2 : nI N ≤ nI (1 + w) := nI_le q (by omega)
      rw [if_pos t2]
      exact ⟨w, by omega, Nat.le_refl _, rfl, hp, Or.inr (fun z => by omega)⟩
    · have t2 : ¬ nI N ≤ nI (1 + w) := nI_ge (by omega) (by omega)
      rw [if_neg t2, if_pos (zq_in (show i + (1 + w) < 60 by omega) (by decide)), zq_cl (show i + (1 + w) < 2 ^ 31 by omega), hc (1 + w) (by omega), zX_dg, zxB_s, zi_b, nI_1]
      by_cases q2 : 48 ≤ c (1 + w) ∧ c (1 + w) ≤ 57
      · rw [if_pos (show (48 : Int32) + 0 ≤ c (1 + w) ∧ c (1 + w) ≤ 48 + 9 from q2)]
        obtain ⟨W, a1, a2, a3, a4, a5⟩ := ih (w + 1) f (by omega) (by omega) (fun w' hw' => by
          by_cases e : w' = w
          · subst e
            exact ⟨by omega, q2⟩
          · exact hp w' (by omega))
        exact ⟨W, a1, by omega, a3, a4, a5⟩
      · rw [if_neg (show ¬ ((48 : Int32) + 0 ≤ c (1 + w) ∧ c (1 + w) ≤ 48 + 9) from q2)]
        exact ⟨w, by omega, Nat.le_refl _, rfl, hp, Or.inr (fun z => q2 z.2)⟩
theorem zM_wdL {B N W : Nat} {c : Nat → Int32} (hW : W ≤ 4) (hWd : ∀ w', w' < W → 1 + w' < N ∧ (48 ≤ c (1 + w') ∧ c (1 + w') ≤ 57)) (hWe : W = 4 ∨ ¬ (1 + W < N ∧ (48 ≤ c (1 + W) ∧ c (1 + W) ≤ 57))) (hN : 1 ≤ N) : ∀ (m w f : Nat) (J : zxI), w + m = W → m < f → zcM J B N c → J 0 14 = nI (B + (1 + w)) → J 0 15 = nI w → (∀ w', w' < w → J 8 w' = c (1 + w') - 48) → ∃ J', fX7_readTheWords_L5 f (nI (B + N)) J = some (if W = 0 then 0 else 1, J') ∧ zNf J J' ∧ J' 0 14 = nI (B + (1 + W)) ∧ J' 0 15 = nI W ∧ J' 0 16 = J 0 16 ∧ ∀ w', w' < W → J' 8 w' = c (1 + w') - 48 := by
  intro m
  induction m with
  | zero =>
    intro w f J hw hf hJ h14 h15 h8
    obtain ⟨f, rfl⟩ : ∃ x, f = x + 1 := ⟨f - 1, by omega⟩
    have e : w = W := by omega
    subst e
    have hB := hJ.1
    rw [fX7_readTheWords_L5, h15]
    by_cases q : w = 4
    · have t : (4 : Int32) ≤ nI w := nI_le (a := 4) (by omega) (by omega)
      rw [if_pos t, if_neg (show ¬ w = 0 by omega)]
      exact ⟨J, rfl, zNf_r, h14, h15, rfl, h8⟩
    · have t : ¬ (4 : Int32) ≤ nI w := nI_ge (b := 4) (by omega) (by decide)
      have hw1 : 1 + w ≤ N := by
        by_cases z : w = 0
        · omega
        · have := hWd (w - 1) (by omega)
          omega
      rw [if_neg t, zM_dgt hJ h14 hw1, if_neg (show ¬ (1 + w < N ∧ ((48 : Int32) + 0 ≤ c (1 + w) ∧ c (1 + w) ≤ 48 + 9)) from hWe.resolve_left q), zxB_s, if_pos (by decide : (-9 : Int32) = -9), h15]
      by_cases z : w = 0
      · subst z
        rw [if_pos (by decide : nI 0 ≤ 0), if_pos rfl]
        exact ⟨J, rfl, zNf_r, h14, h15, rfl, h8⟩
      · have t2 : ¬ nI w ≤ 0 := nI_nle (by omega) (by omega)
        rw [if_neg t2, if_neg z]
        exact ⟨J, rfl, zNf_r, h14, h15, rfl, h8⟩
  | succ m ih =>
    intro w f J hw hf hJ h14 h15 h8
    obtain ⟨f, rfl⟩ : ∃ x, f = x + 1 := ⟨f - 1, by omega⟩
    have hd := hWd w (by omega)
    have t : ¬ (4 : Int32) ≤ nI w := nI_ge (b := 4) (by omega) (by decide)
    rw [fX7_readTheWords_L5, h15, if_neg t, zM_dgt hJ h14 (by omega), if_pos (show 1 + w < N ∧ ((48 : Int32) + 0 ≤ c (1 + w) ∧ c (1 + w) ≤ 48 + 9) from hd), zxB_s, if_neg (zdg_n9 hd.2)]
    simp only [zxU_k (show 15 ≠ 14 by decide), zxU_q (show 0 ≠ 8 by decide), h15, zq_in (show w < 4 by omega) (show 4 < 2 ^ 31 by decide), if_true, zq_cl (show w < 2 ^ 31 by omega), nI_1]
    have hf1 : zNf J (zxU (zxU (zxU J 0 14 (nI (B + (1 + w) + 1))) 8 w (c (1 + w) - 48)) 0 15 (nI (w + 1))) := zNf_t (zNf_t (zNf_0 (Or.inl rfl)) (zNf_q (Or.inl rfl))) (zNf_0 (Or.inr (Or.inl rfl)))
    obtain ⟨J', y1, y2, y3, y4, y5, y6⟩ := ih (w + 1) f _ (by omega) (by omega) (zcM_f hJ hf1) (by rw [zxU_k (by decide), zxU_q (by decide), zxU_s, show B + (1 + w) + 1 = B + (1 + (w + 1)) by omega]) zxU_s (fun w' hw' => by
      rw [zxU_q (by decide)]
      by_cases e : w' = w
      · subst e
        rw [zxU_s]
      · rw [zxU_k e, zxU_q (by decide)]
        exact h8 w' (by omega))
    exact ⟨J', y1, zNf_t hf1 y2, y3, y4, by rw [y5, zxU_k (by decide), zxU_q (by decide), zxU_k (by decide)], y6⟩
