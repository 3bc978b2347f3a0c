/-! a mine is made anew -/
def zdr (c : Nat → Int32) (W G : Nat) : Nat → Nat → Int32 → Int32
  | 0, _, x => x
  | m + 1, g, x => zdr c W G m (g + 1) (if g + 1 < G then x ||| ((c (1 + W + 5 * g + 4) - 48) <<< (nI g &&& 31)) else x)
theorem zd_dr : ∀ d, d < 32 → ∀ g, g < 5 → ∀ b, b < 2 → nI d ||| (nI b <<< (nI g &&& 31)) = nI (nI d ||| (nI b <<< (nI g &&& 31))).toNatClampNeg ∧ (nI d ||| (nI b <<< (nI g &&& 31))).toNatClampNeg < 32 := by decide +kernel
theorem zd_sh0 : ∀ g, g < 6 → nI 0 <<< (nI g &&& 31) = (0 : Int32) := by decide +kernel
theorem zdr_32 {c : Nat → Int32} {W G : Nat} (h6 : G ≤ 6) (hd : ∀ g, g < G → ∃ b, b < 2 ∧ c (1 + W + 5 * g + 4) - 48 = nI b) : ∀ (m g d : Nat), g + m = G → d < 32 → ∃ e, e < 32 ∧ zdr c W G m g (nI d) = nI e := by
  intro m
  induction m with
  | zero => intro g d _ h; exact ⟨d, h, rfl⟩
  | succ m ih =>
    intro g d hg h
    unfold zdr
    by_cases q : g + 1 < G
    · obtain ⟨b, hb, eb⟩ := hd g (by omega)
      obtain ⟨z1, z2⟩ := zd_dr d h g (by omega) b hb
      rw [if_pos q, eb, z1]
      exact ih (g + 1) _ (by omega) z2
    · rw [if_neg q]
      exact ih (g + 1) d (by omega) h
/-- a row written from g on below G -/
def zrw (f r : Nat → Int32) (g G : Nat) : Nat → Int32 := fun j => if g ≤ j ∧ j < G then f j else r j
theorem zrw_0 {f r : Nat → Int32} {G : Nat} : zrw f r G G = r := by
  funext j
  unfold zrw
  rw [if_neg (by omega)]
theorem zrw_s {f r : Nat → Int32} {g G : Nat} {v : Int32} (h : g < G) (hv : v = f g) : zrw f (upd r g v) (g + 1) G = zrw f r g G := by
  funext j
  unfold zrw
  by_cases e : j = g
  · subst e
    rw [if_neg (by omega), if_pos (by omega), upd_s, hv]
  · rw [upd_n e]
    by_cases e2 : g + 1 ≤ j ∧ j < G
    · rw [if_pos e2, if_pos (by omega)]
    · rw [if_neg e2, if_neg (by omega)]
theorem zrw_in {f r : Nat → Int32} {G j : Nat} (h : j < G) : zrw f r 0 G j = f j := by
  unfold zrw
  rw [if_pos (by omega)]
theorem zrw_out {f r : Nat → Int32} {G j : Nat} (h : G ≤ j) : zrw f r 0 G j = r j := by
  unfold zrw
  rw [if_neg (by omega)]
theorem zX_mkG {k i N W G : Nat} {c : Nat → Int32} (h6 : G ≤ 6) (h2 : 2 ≤ G) (hN : N = 1 + W + 5 * G) : ∀ (m g f : Nat) (I : zxI), g + m = G → m < f → zcX I k i N c → I 10 0 = nI G → ∃ I', fX6_makeAnew_L95 k f (nI i) (nI (1 + W)) (nI g) I = some (zxU (zxU (zxU I' (zaO 0) 1 0) 0 8 0) 31 0 0) ∧ (∀ q, q ≠ 10 → q ≠ 12 → q ≠ 13 → q ≠ 15 → I' q = I q) ∧ (∀ k, k ≠ 5 → I' 10 k = I 10 k) ∧ I' 10 5 = zdr c W G m g (I 10 5) ∧ I' 12 = zrw (fun g => zkl (c (1 + W + 5 * g + 1))) (I 12) g G ∧ I' 15 = zrw (fun g => c (1 + W + 5 * g + 2) - 48) (I 15) g G ∧ I' 13 = zrw (fun g => c (1 + W + 5 * g + 3) - 48) (I 13) g G := by
  intro m
  induction m with
  | zero =>
    intro g f I hg hf hX hG
    obtain ⟨f, rfl⟩ : ∃ x, f = x + 1 := ⟨f - 1, by omega⟩
    have e : g = G := by omega
    subst e
    have t : nI g ≤ nI g := nI_le (Nat.le_refl _) (by omega)
    refine ⟨I, ?_, fun _ _ _ _ _ => rfl, fun _ _ => rfl, rfl, zrw_0.symm, zrw_0.symm, zrw_0.symm⟩
    rw [fX6_makeAnew_L95, hG, if_pos t]
  | succ m ih =>
    intro g f I hg hf hX hG
    obtain ⟨f, rfl⟩ : ∃ x, f = x + 1 := ⟨f - 1, by omega⟩
    obtain ⟨hi, hk, hc⟩ := id hX
    have t : ¬ nI G ≤ nI g := nI_ge (by omega) (by omega)
    have b1 : nI i + nI (1 + W) + (5 : Int32) * nI g = nI (i + (1 + W + 5 * g)) := by rw [show (5 : Int32) = nI 5 from rfl, pk_mul, nI_add, nI_add, Nat.add_assoc]
    have b2 : ∀ s, nI (i + (1 + W + 5 * g)) + nI s = nI (i + (1 + W + 5 * g + s)) := fun s => by rw [nI_add, Nat.add_assoc]
    have nC : zsC k ≠ 12 ∧ zsC k ≠ 15 ∧ zsC k ≠ 13 ∧ zsC k ≠ 10 := by unfold zsC; omega
    have in1 := zq_in (show i + (1 + W + 5 * g + 1) < 60 by omega) (show 60 < 2 ^ 31 by decide)
    have in2 := zq_in (show i + (1 + W + 5 * g + 2) < 60 by omega) (show 60 < 2 ^ 31 by decide)
    have in3 := zq_in (show i + (1 + W + 5 * g + 3) < 60 by omega) (show 60 < 2 ^ 31 by decide)
    have in4 := zq_in (show i + (1 + W + 5 * g + 4) < 60 by omega) (show 60 < 2 ^ 31 by decide)
    have ing := zq_in (show g < 6 by omega) (show 6 < 2 ^ 31 by decide)
    have hG1 : nI G - 1 = nI (G - 1) := by
      obtain ⟨y, rfl⟩ : ∃ y, G = y + 1 := ⟨G - 1, by omega⟩
      rw [nI_pred, Nat.add_sub_cancel]
    rw [fX6_makeAnew_L95, hG, if_neg t, b1, show (1 : Int32) = nI 1 from rfl, show (2 : Int32) = nI 2 from rfl, show (3 : Int32) = nI 3 from rfl, show (4 : Int32) = nI 4 from rfl, b2, b2, b2, b2]
    simp only [in1, in2, in3, in4, ing, if_true, zX_kl, zxB_s, zX_isD, zi_b, zq_cl (show g < 2 ^ 31 by omega), zq_cl (show i + (1 + W + 5 * g + 1) < 2 ^ 31 by omega), zq_cl (show i + (1 + W + 5 * g + 2) < 2 ^ 31 by omega), zq_cl (show i + (1 + W + 5 * g + 3) < 2 ^ 31 by omega), zq_cl (show i + (1 + W + 5 * g + 4) < 2 ^ 31 by omega), zxU_q nC.1, zxU_q nC.2.1, zxU_q nC.2.2.1, zxU_q (show zsC k ≠ zaF 0 from nC.2.1), hc (1 + W + 5 * g + 1) (by omega), hc (1 + W + 5 * g + 2) (by omega), hc (1 + W + 5 * g + 3) (by omega), hc (1 + W + 5 * g + 4) (by omega)]
    obtain ⟨I1, hI1⟩ : ∃ X, X = zxU (zxU (zxU I 12 g (zkl (c (1 + W + 5 * g + 1)))) (zaF 0) g (c (1 + W + 5 * g + 2) - 48)) 13 g (c (1 + W + 5 * g + 3) - 48) := ⟨_, rfl⟩
    have r10 : I1 10 = I 10 := by rw [hI1, zxU_q (by decide), zxU_q (by decide), zxU_q (by decide)]
    have rC : I1 (zsC k) = I (zsC k) := by rw [hI1, zxU_q nC.2.2.1, zxU_q (show zsC k ≠ zaF 0 from nC.2.1), zxU_q nC.1]
    have r12 : I1 12 = upd (I 12) g (zkl (c (1 + W + 5 * g + 1))) := by rw [hI1, zxU_q (by decide), zxU_q (by decide), zSR_U, zSR_s]
    have r15 : I1 15 = upd (I 15) g (c (1 + W + 5 * g + 2) - 48) := by rw [hI1, zxU_q (by decide), zSR_U, show 15 = zaF 0 from rfl, zSR_s, zxU_q (by decide)]
    have r13 : I1 13 = upd (I 13) g (c (1 + W + 5 * g + 3) - 48) := by rw [hI1, zSR_U, zSR_s, zxU_q (by decide), zxU_q (by decide)]
    have rq : ∀ q, q ≠ 12 → q ≠ 13 → q ≠ 15 → I1 q = I q := fun q h1 h2 h3 => by rw [hI1, zxU_q h2, zxU_q (show q ≠ zaF 0 from h3), zxU_q h1]
    rw [← hI1]
    clear hI1
    have fin : ∀ I2, zcX I2 k i N c → I2 10 0 = nI G → (∀ q, q ≠ 10 → I2 q = I1 q) → (∀ k, k ≠ 5 → I2 10 k = I1 10 k) → I2 10 5 = (if g + 1 < G then I 10 5 ||| ((c (1 + W + 5 * g + 4) - 48) <<< (nI g &&& 31)) else I 10 5) → ∃ I', fX6_makeAnew_L95 k f (nI i) (nI (1 + W)) (nI (g + 1)) I2 = some (zxU (zxU (zxU I' (zaO 0) 1 0) 0 8 0) 31 0 0) ∧ (∀ q, q ≠ 10 → q ≠ 12 → q ≠ 13 → q ≠ 15 → I' q = I q) ∧ (∀ k, k ≠ 5 → I' 10 k = I 10 k) ∧ I' 10 5 = zdr c W G (m + 1) g (I 10 5) ∧ I' 12 = zrw (fun g => zkl (c (1 + W + 5 * g + 1))) (I 12) g G ∧ I' 15 = zrw (fun g => c (1 + W + 5 * g + 2) - 48) (I 15) g G ∧ I' 13 = zrw (fun g => c (1 + W + 5 * g + 3) - 48) (I 13) g G := by
      intro I2 h1 h2 h3 h4 h5
      obtain ⟨I', y1, y2, y3, y4, y5, y6, y7⟩ := ih (g + 1) f I2 (by omega) (by omega) h1 h2
      refine ⟨I', y1, fun q a b d e => by rw [y2 q a b d e, h3 q a, rq q b d e], fun k hk => by rw [y3 k hk, h4 k hk, r10], ?_, ?_, ?_, ?_⟩
      · rw [y4, h5]
        rfl
      · rw [y5, h3 12 (by decide), r12, zrw_s (by omega) rfl]
      · rw [y6, h3 15 (by decide), r15, zrw_s (by omega) rfl]
      · rw [y7, h3 13 (by decide), r13, zrw_s (by omega) rfl]
    have hX1 : zcX I1 k i N c := ⟨hi, hk, fun q hq => by rw [rC]; exact hc q hq⟩
    rw [r10, hG, hG1, nI_add]
    by_cases q : g + 1 < G
    · rw [if_pos (And.intro (nI_pos' (show g < 2 ^ 31 by omega)) (nI_lt (show g < G - 1 by omega) (by omega)))]
      refine fin _ ⟨hi, hk, fun q' hq' => by rw [zxU_q nC.2.2.2]; exact hX1.2.2 q' hq'⟩ (by rw [zxU_k (by decide), r10]; exact hG) (fun q' hq' => zxU_q hq') (fun k' hk' => zxU_k hk') ?_
      rw [if_pos q, zxU_s]
    · rw [if_neg (fun z => absurd ((nI_ltI (by omega) (by omega)).mp z.2) (by omega))]
      refine fin I1 hX1 (by rw [r10]; exact hG) (fun _ _ => rfl) (fun _ _ => rfl) ?_
      rw [if_neg q, r10]
theorem zX_mkW {k i N W G : Nat} {c : Nat → Int32} (hW : W ≤ 4) (h6 : G ≤ 6) (h2 : 2 ≤ G) (hN : N = 1 + W + 5 * G) : ∀ (m w f : Nat) (I : zxI), w + m = W → m < f → zcX I k i N c → I 10 1 = nI W → ∃ I', fX6_makeAnew_L16 k f (nI i) (nI N) (nI w) I = fX6_makeAnew_L95 k 1000 (nI i) (nI (1 + W)) 0 (zxU (zxU I' 10 0 (nI G)) 10 5 0) ∧ (∀ q, q ≠ 11 → I' q = I q) ∧ I' 11 = zrw (fun w => c (1 + w) - 48) (I 11) w W := by
  intro m
  induction m with
  | zero =>
    intro w f I hw hf hX hW1
    obtain ⟨f, rfl⟩ : ∃ x, f = x + 1 := ⟨f - 1, by omega⟩
    have e : w = W := by omega
    subst e
    have hi := hX.1
    have t : nI w ≤ nI w := nI_le (Nat.le_refl _) (by omega)
    have e1 : (1 : Int32) + nI w = nI (1 + w) := by rw [show (1 : Int32) = nI 1 from rfl, nI_add]
    have e2 : nI N - nI (1 + w) = nI (5 * G) := by rw [pk_sub (by omega)]; congr 1; omega
    have e3 : nI (5 * G) / 5 = nI G := by
      rw [show (5 : Int32) = nI 5 from rfl, pk_div (by omega) (by omega) (by omega)]
      congr 1
      omega
    have t6 : ¬ (6 : Int32) < nI G := nI_nlt (a := 6) (by omega) (by omega)
    refine ⟨I, ?_, fun _ _ => rfl, zrw_0.symm⟩
    rw [fX6_makeAnew_L16, hW1, if_pos t, if_pos (by decide : ¬ (5 : Int32) = 0), e1, e2, e3, if_neg t6]
  | succ m ih =>
    intro w f I hw hf hX hW1
    obtain ⟨f, rfl⟩ : ∃ x, f = x + 1 := ⟨f - 1, by omega⟩
    obtain ⟨hi, hk, hc⟩ := id hX
    have t : ¬ nI W ≤ nI w := nI_ge (by omega) (by omega)
    have e2 : nI i + 1 + nI w = nI (i + (1 + w)) := by rw [nI_1, nI_add, Nat.add_assoc]
    have nC : zsC k ≠ 11 := by unfold zsC; omega
    rw [fX6_makeAnew_L16, hW1, if_neg t, e2, if_pos (zq_in (show i + (1 + w) < 60 by omega) (by decide)), if_pos (zq_in (show w < 4 by omega) (by decide)), zq_cl (show w < 2 ^ 31 by omega), zq_cl (show i + (1 + w) < 2 ^ 31 by omega), hc (1 + w) (by omega), nI_1]
    obtain ⟨I', y1, y2, y3⟩ := ih (w + 1) f (zxU I 11 w (c (1 + w) - 48)) (by omega) (by omega) ⟨hi, hk, fun q hq => by rw [zxU_q nC]; exact hc q hq⟩ (by rw [zxU_q (by decide)]; exact hW1)
    refine ⟨I', y1, fun q hq => (y2 q hq).trans (zxU_q hq), ?_⟩
    rw [y3, zSR_U, zSR_s, zrw_s (by omega) rfl]
theorem zX_make {I : zxI} {k i N W G : Nat} {c : Nat → Int32} (hW : W ≤ 4) (h6 : G ≤ 6) (h2 : 2 ≤ G) (hN : N = 1 + W + 5 * G) (hX : zcX I k i N c) (hw : fX6_wordsOfText k (nI i) (nI N) I = some (nI W, I)) : ∃ I', fX6_makeAnew k (nI i) (nI N) I = some I' ∧ (∀ q, q ≠ 0 → q ≠ 10 → q ≠ 11 → q ≠ 12 → q ≠ 13 → q ≠ 14 → q ≠ 15 → q ≠ 31 → I' q = I q) ∧ (∀ j, j ≠ 8 → I' 0 j = I 0 j) ∧ I' 0 8 = 0 ∧ I' 10 0 = nI G ∧ I' 10 1 = nI W ∧ I' 10 5 = zdr c W G G 0 0 ∧ I' 11 = zrw (fun w => c (1 + w) - 48) (I 11) 0 W ∧ I' 12 = zrw (fun g => zkl (c (1 + W + 5 * g + 1))) (I 12) 0 G ∧ I' (zaF 0) = zrw (fun g => c (1 + W + 5 * g + 2) - 48) (I (zaF 0)) 0 G ∧ I' 13 = zrw (fun g => c (1 + W + 5 * g + 3) - 48) (I 13) 0 G ∧ I' (zaO 0) 1 = 0 ∧ I' 31 0 = 0 := by
  obtain ⟨hi, hk, hc⟩ := id hX
  have nC : zsC k ≠ 10 ∧ zsC k ≠ 11 := by unfold zsC; omega
  obtain ⟨I1, y1, y2, y3⟩ := zX_mkW hW h6 h2 hN W 0 1000 (zxU I 10 1 (nI W)) (by omega) (by omega) (c := c) (k := k) (i := i) ⟨hi, hk, fun q hq => by rw [zxU_q nC.1]; exact hc q hq⟩ zxU_s
  obtain ⟨I2, z1, z2, z3, z4, z5, z6, z7⟩ := zX_mkG (c := c) (k := k) (i := i) h6 h2 hN G 0 1000 (zxU (zxU I1 10 0 (nI G)) 10 5 0) (by omega) (by omega) ⟨hi, hk, fun q hq => by rw [zxU_q nC.1, zxU_q nC.1, y2 _ nC.2, zxU_q nC.1]; exact hc q hq⟩ (by rw [zxU_k (by decide), zxU_s])
  unfold fX6_makeAnew
  rw [hw, zxB_s, show (0 : Int32) = nI 0 from rfl, y1, show (0 : Int32) = nI 0 from rfl]
  rw [show nI 0 = (0 : Int32) from rfl] at z1 ⊢
  refine ⟨_, z1, ?_, ?_, ?_, ?_, ?_, ?_, ?_, ?_, ?_, ?_, ?_, ?_⟩
  · intro q a0 a10 a11 a12 a13 a14 a15 a31
    rw [zxU_q a31, zxU_q a0, zxU_q (show q ≠ zaO 0 from a14), z2 q a10 a12 a13 a15, zxU_q a10, zxU_q a10, y2 q a11, zxU_q a10]
  · intro j hj
    rw [zxU_q (by decide), zxU_k hj, zxU_q (by decide), z2 0 (by decide) (by decide) (by decide) (by decide), zxU_q (by decide), zxU_q (by decide), y2 0 (by decide), zxU_q (by decide)]
  · rw [zxU_q (by decide), zxU_s]
  · rw [zxU_q (by decide), zxU_q (by decide), zxU_q (by decide), z3 0 (by decide), zxU_k (by decide), zxU_s]
  · rw [zxU_q (by decide), zxU_q (by decide), zxU_q (by decide), z3 1 (by decide), zxU_k (by decide), zxU_k (by decide), y2 10 (by decide), zxU_s]
  · rw [zxU_q (by decide), zxU_q (by decide), zxU_q (by decide), z4, zxU_s]
  · rw [zxU_q (by decide), zxU_q (by decide), zxU_q (by decide), z2 11 (by decide) (by decide) (by decide) (by decide), zxU_q (by decide), zxU_q (by decide), y3, zxU_q (by decide)]
  · rw [zxU_q (by decide), zxU_q (by decide), zxU_q (by decide), z5, zxU_q (by decide), zxU_q (by decide), y2 12 (by decide), zxU_q (by decide)]
  · rw [zxU_q (by decide), zxU_q (by decide), zxU_q (by decide), show zaF 0 = 15 from rfl, z6, zxU_q (by decide), zxU_q (by decide), y2 15 (by decide), zxU_q (by decide)]
  · rw [zxU_q (by decide), zxU_q (by decide), zxU_q (by decide), z7, zxU_q (by decide), zxU_q (by decide), y2 13 (by decide), zxU_q (by decide)]
  · rw [zxU_q (by decide), zxU_q (by decide), zxU_s]
  · rw [zxU_s]
