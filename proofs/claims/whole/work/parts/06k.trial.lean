/-! what is tried on a copy of the air (the class) or on the air itself, which is put back (the reference) -/
def zXf (I I' : zxI) : Prop := ∀ q, q < 16 ∨ (31 ≤ q ∧ q ≤ 34) → I' q = I q
def zMf (J J' : zxI) : Prop := (∀ q, (1 ≤ q ∧ q < 10) ∨ 13 ≤ q → J' q = J q) ∧ ∀ k, k < 20 ∨ k = 25 → J' 0 k = J 0 k
theorem zXf_r {I : zxI} : zXf I I := fun _ _ => rfl
theorem zMf_r {J : zxI} : zMf J J := ⟨fun _ _ => rfl, fun _ _ => rfl⟩
theorem zXf_t {I I' I'' : zxI} (h : zXf I I') (h' : zXf I' I'') : zXf I I'' := fun q hq => (h' q hq).trans (h q hq)
theorem zMf_t {J J' J'' : zxI} (h : zMf J J') (h' : zMf J' J'') : zMf J J'' := ⟨fun q hq => (h'.1 q hq).trans (h.1 q hq), fun k hk => (h'.2 k hk).trans (h.2 k hk)⟩
theorem zR_f {I J I' J' : zxI} (h : zR I J) (hX : zXf I I') (hM : zMf J J') : zR I' J' := by
  obtain ⟨⟨G, W, hc⟩, hf⟩ := h
  refine ⟨⟨G, W, zRc_fr hc (hX 0 (by omega)) (hX 10 (by omega)) (hX 11 (by omega)) (hX 12 (by omega)) (hX 13 (by omega)) (hX _ (by unfold zaO; omega)) (hX _ (by unfold zaF; omega)) (hX 31 (by omega)) (hX 32 (by omega)) (hX 33 (by omega)) (hX 34 (by omega)) (hM.2 0 (by omega)) (hM.2 1 (by omega)) (hM.2 5 (by omega)) (hM.2 6 (by omega)) (hM.2 7 (by omega)) (hM.2 8 (by omega)) (hM.2 9 (by omega)) (hM.2 25 (by omega)) (hM.1 4 (by omega)) (hM.1 5 (by omega)) (hM.1 6 (by omega)) (hM.1 7 (by omega)) (hM.1 13 (by omega)) (hM.1 14 (by omega)) (hM.1 15 (by omega))⟩, zRf_fr hf (fun k hk => ⟨hX _ (by unfold zsO; omega), hX _ (by unfold zsC; omega)⟩) (hM.1 1 (by omega)) (hM.1 2 (by omega)) (hM.1 3 (by omega))⟩
theorem zX_bl {j i : Nat} (I : zxI) : fX0_becomeLike j i I = some (zxU (zSR I (zaF j) (va_cpy (I (zaF i)) (I (zaF j)) 0 0 6)) (zaO j) 1 (I (zaO i) 1)) := by
  unfold fX0_becomeLike
  rw [if_pos (by decide), zSR_C]
  have e : (zSR I (zaF j) (va_cpy (I (zaF i)) (I (zaF j)) 0 0 6)) (zaO i) = I (zaO i) := zSR_n (Ne.symm za_ne3)
  show some (zxU (zSR I (zaF j) (va_cpy (I (zaF i)) (I (zaF j)) 0 0 6)) (zaO j) 1 ((zSR I (zaF j) (va_cpy (I (zaF i)) (I (zaF j)) 0 0 6)) (zaO i) 1)) = _
  rw [e]
theorem zcpy_6 {f g : Nat → Int32} : zE6 (va_cpy f g 0 0 6) f := by
  intro k hk
  unfold va_cpy
  rw [if_pos (by omega)]
  congr 1
  omega
theorem zF_E {f g : Nat → Int32} (h : zF f) (e : zE6 g f) : zF g := fun k hk => by rw [e k hk]; exact h k hk
theorem zps_hi (dr : Int32) : ∀ (m k : Nat) (f : Nat → Int32) (c : Int32) (q : Nat), k + m < q → (zps dr m k f c).1 q = f q := by
  intro m
  induction m with
  | zero => intro k f c q _; rfl
  | succ m ih =>
    intro k f c q hq
    unfold zps
    by_cases c1 : ((dr >>> (nI k &&& 31)) &&& 1) = 1 ∧ (1 < f k - f (k + 1) ∨ f k - f (k + 1) < -1)
    · rw [if_pos c1]
      by_cases c2 : 0 < f k - f (k + 1)
      · rw [if_pos c2, ih _ _ _ _ (by omega), upd_n (by omega), upd_n (by omega)]
      · rw [if_neg c2, ih _ _ _ _ (by omega), upd_n (by omega), upd_n (by omega)]
    · rw [if_neg c1, ih _ _ _ _ (by omega)]
theorem zbh_hi {G : Nat} {dr : Int32} {ks ss f : Nat → Int32} {d : Int32} {q : Nat} (hG : 0 < G) (hq : G ≤ q) : (zbh G dr ks ss f d).2.1 q = f q := zps_hi dr (G - 1) 0 f 0 q (by omega)
theorem zbr_hi {G g w : Nat} {dr : Int32} {b ks ss f : Nat → Int32} {d : Int32} {q : Nat} (hG : 0 < G) (hq : G ≤ q) (hg : g < G) : (zbr G dr b ks ss f d g w).2.1 q = f q := by
  unfold zbr
  rw [zbh_hi hG hq, upd_n (by omega)]
/-! sets and how they grow -/
theorem zd_bitS : ∀ x, x < 64 → ∀ k, k < 6 → (nI x ||| ((1 : Int32) <<< (nI k &&& 31))) = nI (x ||| 2 ^ k) ∧ (x ||| 2 ^ k) < 64 := by decide +kernel
theorem zd_bitT : ∀ d, d < 64 → ∀ k, k < 6 → (((nI d >>> (nI k &&& 31)) &&& 1) = 1) ∨ (2 ^ k &&& d = 0) := by decide +kernel
theorem zd_orN : ∀ x, x < 64 → ∀ y, y < 64 → nI x ||| nI y = nI (x ||| y) ∧ (x ||| y) < 64 := by decide +kernel
theorem zd_pc : ∀ x, x < 64 → ∀ y, y < 64 → (x &&& y = 0 → zpc (x ||| y) = zpc x + zpc y) ∧ zpc y ≤ 6 := by decide +kernel
theorem zds_N {f ks ss : Nat → Int32} {d : Nat} (hd : d < 64) : ∀ (m k x : Nat), k + m ≤ 6 → x < 64 → ∃ y, y < 64 ∧ zds f ks ss (nI d) m k (nI x) = nI y ∧ (x &&& d = 0 → y &&& d = 0) := by
  intro m
  induction m with
  | zero => intro k x _ hx; exact ⟨x, hx, rfl, id⟩
  | succ m ih =>
    intro k x hk hx
    unfold zds
    by_cases c1 : ((nI d >>> (nI k &&& 31)) &&& 1) = 1
    · rw [if_pos c1]; exact ih _ _ (by omega) hx
    · rw [if_neg c1]
      by_cases c2 : f k ≤ zbe (ks k) (ss k)
      · rw [if_pos c2]; exact ih _ _ (by omega) hx
      · rw [if_neg c2, (zd_bitS x hx k (by omega)).1]
        obtain ⟨y, hy, ey, hz⟩ := ih (k + 1) (x ||| 2 ^ k) (by omega) (zd_bitS x hx k (by omega)).2
        refine ⟨y, hy, ey, fun e => hz ?_⟩
        rw [Nat.and_or_distrib_right, e, (zd_bitT d hd k (by omega)).resolve_left c1]
        rfl
theorem zbh_N {G : Nat} {dr : Int32} {ks ss f : Nat → Int32} {d : Nat} (h6 : G ≤ 6) (hd : d < 64) : ∃ s, s < 64 ∧ (zbh G dr ks ss f (nI d)).1 = nI s ∧ (zbh G dr ks ss f (nI d)).2.2 = nI (d ||| s) ∧ s &&& d = 0 ∧ (d ||| s) < 64 := by
  obtain ⟨s, hs, es, ez⟩ := zds_N (f := (zps dr (G - 1) 0 f 0).1) (ks := ks) (ss := ss) hd G 0 0 (by omega) (by decide)
  have es' : (zbh G dr ks ss f (nI d)).1 = nI s := es
  refine ⟨s, hs, es', ?_, ez (Nat.zero_and d), (zd_orN d hd s hs).2⟩
  show nI d ||| (zbh G dr ks ss f (nI d)).1 = _
  rw [es', (zd_orN d hd s hs).1]
/-- T: the class's world while it tries (on air 1), U: the reference's -/
def zTT (I J T U : zxI) (G d : Nat) : Prop := (∀ q, q ≠ 16 → q ≠ 17 → T q = I q) ∧ zF (T 17) ∧ zE6 (T 17) (U 6) ∧ T 16 1 = nI d ∧ U 0 8 = nI d ∧ d < 64 ∧ (∀ q, (1 ≤ q ∧ q < 6) ∨ (7 ≤ q ∧ q < 10) ∨ 11 ≤ q → U q = J q) ∧ (∀ k, k < 8 ∨ (10 ≤ k ∧ k < 20) ∨ k = 25 → U 0 k = J 0 k) ∧ (∀ k, k < G → U 10 k = J 6 k) ∧ U 0 20 = J 0 8 ∧ (∀ k, G ≤ k → U 6 k = J 6 k)
theorem zTT.x {I J T U : zxI} {G d : Nat} (h : zTT I J T U G d) : ∀ q, q ≠ 16 → q ≠ 17 → T q = I q := h.1
theorem zTT.f {I J T U : zxI} {G d : Nat} (h : zTT I J T U G d) : zF (T 17) := h.2.1
theorem zTT.e {I J T U : zxI} {G d : Nat} (h : zTT I J T U G d) : zE6 (T 17) (U 6) := h.2.2.1
theorem zTT.dx {I J T U : zxI} {G d : Nat} (h : zTT I J T U G d) : T 16 1 = nI d := h.2.2.2.1
theorem zTT.dm {I J T U : zxI} {G d : Nat} (h : zTT I J T U G d) : U 0 8 = nI d := h.2.2.2.2.1
theorem zTT.d6 {I J T U : zxI} {G d : Nat} (h : zTT I J T U G d) : d < 64 := h.2.2.2.2.2.1
theorem zTT.m {I J T U : zxI} {G d : Nat} (h : zTT I J T U G d) : ∀ q, (1 ≤ q ∧ q < 6) ∨ (7 ≤ q ∧ q < 10) ∨ 11 ≤ q → U q = J q := h.2.2.2.2.2.2.1
theorem zTT.m0 {I J T U : zxI} {G d : Nat} (h : zTT I J T U G d) : ∀ k, k < 8 ∨ (10 ≤ k ∧ k < 20) ∨ k = 25 → U 0 k = J 0 k := h.2.2.2.2.2.2.2.1
theorem zTT.k {I J T U : zxI} {G d : Nat} (h : zTT I J T U G d) : ∀ k, k < G → U 10 k = J 6 k := h.2.2.2.2.2.2.2.2.1
theorem zTT.k0 {I J T U : zxI} {G d : Nat} (h : zTT I J T U G d) : U 0 20 = J 0 8 := h.2.2.2.2.2.2.2.2.2.1
theorem zTT.hi {I J T U : zxI} {G d : Nat} (h : zTT I J T U G d) : ∀ k, G ≤ k → U 6 k = J 6 k := h.2.2.2.2.2.2.2.2.2.2
theorem zM_keepL {G : Nat} : ∀ (m i n : Nat) (J : zxI), J 0 5 = nI G → G ≤ 6 → i + m = G → m < n → fX7_keep_L10 n (nI i) J = some (zSR J 10 (fun k => if i ≤ k ∧ k < G then J 6 k else J 10 k)) := by
  intro m
  induction m with
  | zero =>
    intro i n J hG h6 hi hn
    obtain ⟨n, rfl⟩ : ∃ x, n = x + 1 := ⟨n - 1, by omega⟩
    have e : (fun k => if i ≤ k ∧ k < G then J 6 k else J 10 k) = J 10 := by
      funext k
      rw [if_neg (by omega)]
    rw [fX7_keep_L10, hG, if_pos (nI_le (by omega) (by omega)), e, zSR_id]
  | succ m ih =>
    intro i n J hG h6 hi hn
    obtain ⟨n, rfl⟩ : ∃ x, n = x + 1 := ⟨n - 1, by omega⟩
    rw [fX7_keep_L10, hG, if_neg (nI_ge (by omega) (by omega)), if_pos (zq_in (show i < 6 by omega) (by decide)), zq_cl (by omega), nI_1, zSR_U, ih (i + 1) n _ (by rw [zSR_n (by decide)]; exact hG) h6 (by omega) (by omega), zSR_SR, zSR_s, zSR_n (by decide)]
    congr 2
    funext k
    by_cases e : k = i
    · subst e
      rw [if_neg (by omega), if_pos (by omega), upd_s]
    · rw [upd_n e]
      by_cases e2 : i + 1 ≤ k ∧ k < G
      · rw [if_pos e2, if_pos (by omega)]
      · rw [if_neg e2, if_neg (by omega)]
theorem zM_backL {G : Nat} : ∀ (m i n : Nat) (J : zxI), J 0 5 = nI G → G ≤ 6 → i + m = G → m < n → fX7_putBack_L10 n (nI i) J = some (zSR J 6 (fun k => if i ≤ k ∧ k < G then J 10 k else J 6 k)) := by
  intro m
  induction m with
  | zero =>
    intro i n J hG h6 hi hn
    obtain ⟨n, rfl⟩ : ∃ x, n = x + 1 := ⟨n - 1, by omega⟩
    have e : (fun k => if i ≤ k ∧ k < G then J 10 k else J 6 k) = J 6 := by
      funext k
      rw [if_neg (by omega)]
    rw [fX7_putBack_L10, hG, if_pos (nI_le (by omega) (by omega)), e, zSR_id]
  | succ m ih =>
    intro i n J hG h6 hi hn
    obtain ⟨n, rfl⟩ : ∃ x, n = x + 1 := ⟨n - 1, by omega⟩
    rw [fX7_putBack_L10, hG, if_neg (nI_ge (by omega) (by omega)), if_pos (zq_in (show i < 6 by omega) (by decide)), zq_cl (by omega), nI_1, zSR_U, ih (i + 1) n _ (by rw [zSR_n (by decide)]; exact hG) h6 (by omega) (by omega), zSR_SR, zSR_s, zSR_n (by decide)]
    congr 2
    funext k
    by_cases e : k = i
    · subst e
      rw [if_neg (by omega), if_pos (by omega), upd_s]
    · rw [upd_n e]
      by_cases e2 : i + 1 ≤ k ∧ k < G
      · rw [if_pos e2, if_pos (by omega)]
      · rw [if_neg e2, if_neg (by omega)]
theorem zM_keep {G : Nat} {J : zxI} (hG : J 0 5 = nI G) (h6 : G ≤ 6) : fX7_keep J = some (zSR (zxU J 0 20 (J 0 8)) 10 (fun k => if k < G then J 6 k else J 10 k)) := by
  unfold fX7_keep
  rw [show (0 : Int32) = nI 0 from rfl, zM_keepL (G := G) G 0 1000 _ (by rw [zxU_k (by decide)]; exact hG) h6 (by omega) (by omega)]
  congr 2
  funext k
  rw [zxU_q (by decide), zxU_q (by decide)]
  by_cases e : k < G
  · rw [if_pos e, if_pos (by omega)]
  · rw [if_neg e, if_neg (by omega)]
theorem zM_back {G : Nat} {J : zxI} (hG : J 0 5 = nI G) (h6 : G ≤ 6) : fX7_putBack J = some (zSR (zxU J 0 8 (J 0 20)) 6 (fun k => if k < G then J 10 k else J 6 k)) := by
  unfold fX7_putBack
  rw [show (0 : Int32) = nI 0 from rfl, zM_backL (G := G) G 0 1000 _ (by rw [zxU_k (by decide)]; exact hG) h6 (by omega) (by omega)]
  congr 2
  funext k
  rw [zxU_q (by decide), zxU_q (by decide)]
  by_cases e : k < G
  · rw [if_pos e, if_pos (by omega)]
  · rw [if_neg e, if_neg (by omega)]
/-- a trial begins -/
theorem zT_0 {I J : zxI} {G W : Nat} (hc : zRc I J G W) : ∃ T U d, fX0_becomeLike 1 0 I = some T ∧ fX7_keep J = some U ∧ zTT I J T U G d ∧ I (zaO 0) 1 = nI d ∧ U 0 9 = J 0 9 := by
  obtain ⟨c1, c2, c3, c4, c5, c6, c7, c8, c9, c10, c11, c12, ⟨d, hd, ed⟩, c14, c15, c16, c17, c18, c19, c20, c21, c22, -⟩ := hc
  refine ⟨_, _, d, zX_bl I, zM_keep c2 c4, ⟨?_, ?_, ?_, ?_, ?_, hd, ?_, ?_, ?_, ?_, ?_⟩, ed, ?_⟩
  · intro q h1 h2
    rw [zxU_q (show q ≠ zaO 1 from h1), zSR_n (show q ≠ zaF 1 from h2)]
  · rw [zxU_q (show 17 ≠ zaO 1 by decide), show 17 = zaF 1 from rfl, zSR_s]
    exact zF_E c20 zcpy_6
  · rw [zxU_q (show 17 ≠ zaO 1 by decide), show 17 = zaF 1 from rfl, zSR_s, zSR_n (by decide), zxU_q (by decide), c18]
    exact zcpy_6
  · rw [show 16 = zaO 1 from rfl, zxU_s, ed]
  · rw [zSR_n (by decide), zxU_k (by decide), c12, ed]
  · intro q hq
    rw [zSR_n (by omega), zxU_q (by omega)]
  · intro k hk
    rw [zSR_n (by decide), zxU_k (by omega)]
  · intro k hk
    rw [zSR_s, if_pos hk]
  · rw [zSR_n (by decide), zxU_s]
  · intro k hk
    rw [zSR_n (by decide), zxU_q (by decide)]
  · rw [zSR_n (by decide), zxU_k (by decide)]
/-- and ends -/
theorem zT_1 {I J T U : zxI} {G W d : Nat} (hc : zRc I J G W) (h : zTT I J T U G d) : ∃ U', fX7_putBack U = some U' ∧ (∀ q, 1 ≤ q → q ≠ 10 → U' q = J q) ∧ (∀ k, k < 9 ∨ (10 ≤ k ∧ k < 20) ∨ k = 25 → U' 0 k = J 0 k) ∧ (∀ k, k ≠ 8 → U' 0 k = U 0 k) := by
  have c2 : U 0 5 = nI G := by rw [h.m0 5 (by omega)]; exact hc.2.1
  refine ⟨_, zM_back c2 hc.2.2.2.1, ?_, ?_, ?_⟩
  · intro q h1 h2
    by_cases e : q = 6
    · subst e
      rw [zSR_s]
      funext k
      by_cases e2 : k < G
      · rw [if_pos e2]; exact h.k k e2
      · rw [if_neg e2]; exact h.hi k (by omega)
    · rw [zSR_n e, zxU_q (by omega)]
      exact h.m q (by omega)
  · intro k hk
    rw [zSR_n (by decide)]
    by_cases e : k = 8
    · subst e
      rw [zxU_s]; exact h.k0
    · rw [zxU_k e]; exact h.m0 k (by omega)
  · intro k hk
    rw [zSR_n (by decide), zxU_k hk]
/-- a breath of a trial, in which something is said -/
theorem zT_br {I J T U : zxI} {G W d g w : Nat} {dr : Int32} (hc : zRc I J G W) (h : zTT I J T U G d) (hdr : U 0 9 = dr) (hg : g < G) (hw : w < W) : ∃ T' U' s, fX2_breathe 1 dr (nI g) (nI w) T = some (nI s, T') ∧ fX7_breathe (nI g) (nI w) U = some (nI s, U') ∧ s < 64 ∧ s &&& d = 0 ∧ zTT I J T' U' G (d ||| s) ∧ ∀ k, k ≠ 8 → U' 0 k = U 0 k := by
  obtain ⟨c1, c2, c3, c4, c5, c6, c7, c8, c9, c10, c11, c12, ⟨d0, hd0, ed⟩, c14, c15, c16, c17, c18, c19, c20, c21, c22, -⟩ := hc
  have t10 : T 10 = I 10 := h.x 10 (by omega) (by omega)
  have t11 : T 11 = I 11 := h.x 11 (by omega) (by omega)
  have t12 : T 12 = I 12 := h.x 12 (by omega) (by omega)
  have t13 : T 13 = I 13 := h.x 13 (by omega) (by omega)
  have u5 : U 0 5 = nI G := by rw [h.m0 5 (by omega)]; exact c2
  have v4 : U 4 = I 11 := by rw [h.m 4 (by omega)]; exact c16
  have v5 : U 5 = I 12 := by rw [h.m 5 (by omega)]; exact c17
  have v7 : U 7 = I 13 := by rw [h.m 7 (by omega)]; exact c19
  have hX := zX_br (j := 1) (dr := dr) (I := T) (G := G) (g := g) (w := w) (by rw [t10]; exact c1) c4 h.f (by omega) (by omega) (by rw [t11]; exact c21 w (by omega))
  have hM := zM_br (I := U) (G := G) (g := g) (w := w) u5 c4 (by rw [v5]; exact c22) (by omega) (by omega)
  rw [t11, t12, t13, show T (zaO 1) 1 = nI d from h.dx, show T (zaF 1) = T 17 from rfl] at hX
  rw [v4, v5, v7, hdr, h.dm] at hM
  obtain ⟨e1, e2, e3⟩ := zbr_E (dr := dr) (b := I 11) (ks := I 12) (ss := I 13) (d := nI d) (w := w) c4 h.e (show g < 6 by omega)
  have hF := zbr_F (dr := dr) (ks := I 12) (ss := I 13) (d := nI d) c4 h.f (show g < 6 by omega) (c21 w (by omega))
  have hh : ∀ q, G ≤ q → (zbr G dr (I 11) (I 12) (I 13) (U 6) (nI d) g w).2.1 q = U 6 q := fun q hq => zbr_hi (by omega) hq hg
  obtain ⟨s, hs, es, ee, ez, e64⟩ := zbh_N (G := G) (dr := dr) (ks := I 12) (ss := I 13) (f := upd (T 17) g (zcl (T 17 g + I 11 w - 4))) c4 h.d6
  have es' : (zbr G dr (I 11) (I 12) (I 13) (T 17) (nI d) g w).1 = nI s := es
  have ee' : (zbr G dr (I 11) (I 12) (I 13) (T 17) (nI d) g w).2.2 = nI (d ||| s) := ee
  rw [es', ee'] at hX
  rw [← e1, ← e3, es', ee'] at hM
  generalize (zbr G dr (I 11) (I 12) (I 13) (T 17) (nI d) g w).2.1 = fX at hX hF e2
  generalize (zbr G dr (I 11) (I 12) (I 13) (U 6) (nI d) g w).2.1 = fM at hM e2 hh
  refine ⟨_, _, s, hX, hM, hs, ez, ⟨?_, ?_, ?_, ?_, ?_, e64, ?_, ?_, ?_, ?_, ?_⟩, ?_⟩
  · intro q h1 h2
    show zxU (zSR T (zaF 1) fX) (zaO 1) 1 _ q = I q
    rw [zxU_q (show q ≠ zaO 1 from h1), zSR_n (show q ≠ zaF 1 from h2)]
    exact h.x q h1 h2
  · show zF (zxU (zSR T (zaF 1) fX) (zaO 1) 1 _ 17)
    rw [zxU_q (show 17 ≠ zaO 1 by decide), show 17 = zaF 1 from rfl, zSR_s]
    exact hF
  · show zE6 (zxU (zSR T (zaF 1) fX) (zaO 1) 1 _ 17) (zxU (zSR U 6 fM) 0 8 _ 6)
    rw [zxU_q (show 17 ≠ zaO 1 by decide), show 17 = zaF 1 from rfl, zSR_s, zxU_q (by decide), zSR_s]
    exact e2
  · exact zxU_s
  · exact zxU_s
  · intro q hq
    show zxU (zSR U 6 fM) 0 8 _ q = J q
    rw [zxU_q (by omega), zSR_n (by omega)]
    exact h.m q hq
  · intro k hk
    show zxU (zSR U 6 fM) 0 8 _ 0 k = J 0 k
    rw [zxU_k (by omega), zSR_n (by decide)]
    exact h.m0 k hk
  · intro k hk
    show zxU (zSR U 6 fM) 0 8 _ 10 k = J 6 k
    rw [zxU_q (by decide), zSR_n (by decide)]
    exact h.k k hk
  · show zxU (zSR U 6 fM) 0 8 _ 0 20 = J 0 8
    rw [zxU_k (by decide), zSR_n (by decide)]
    exact h.k0
  · intro k hk
    show zxU (zSR U 6 fM) 0 8 _ 6 k = J 6 k
    rw [zxU_q (by decide), zSR_s, hh k hk]
    exact h.hi k hk
  · intro k hk
    show zxU (zSR U 6 fM) 0 8 _ 0 k = U 0 k
    rw [zxU_k hk, zSR_n (by decide)]
/-- air passes in a trial -/
theorem zT_ps {I J T U : zxI} {G W d : Nat} (hc : zRc I J G W) (h : zTT I J T U G d) (hG : 0 < G) (hdr : U 0 9 = I 10 5) : ∃ T' U' c, fX2_passAir 1 (I 10 5) T = some (c, T') ∧ fX7_pass U = some (c, U') ∧ zTT I J T' U' G d ∧ (∀ k, U' 0 k = U 0 k) ∧ c = (zps (I 10 5) (G - 1) 0 (T 17) 0).2 := by
  obtain ⟨c1, c2, c3, c4, c5, c6, c7, c8, c9, c10, c11, c12, ⟨d0, hd0, ed⟩, c14, c15, c16, c17, c18, c19, c20, c21, c22, -⟩ := hc
  have t10 : T 10 = I 10 := h.x 10 (by omega) (by omega)
  have u5 : U 0 5 = nI G := by rw [h.m0 5 (by omega)]; exact c2
  have hX := zX_pass (j := 1) (dr := I 10 5) (I := T) (G := G) (by rw [t10]; exact c1) c4 h.f
  have hM := zM_pass (I := U) (G := G) u5 c4
  rw [show T (zaF 1) = T 17 from rfl] at hX
  rw [hdr] at hM
  obtain ⟨e2, e1⟩ := zps_E (I 10 5) (G - 1) 0 (T 17) (U 6) 0 (by omega) h.e
  have hF := zps_F (I 10 5) (G - 1) 0 (T 17) 0 (by omega) h.f
  have hh : ∀ q, G ≤ q → (zps (I 10 5) (G - 1) 0 (U 6) 0).1 q = U 6 q := fun q hq => zps_hi (I 10 5) (G - 1) 0 (U 6) 0 q (by omega)
  rw [← e1] at hM
  generalize (zps (I 10 5) (G - 1) 0 (T 17) 0).1 = fX at hX hF e2
  generalize (zps (I 10 5) (G - 1) 0 (U 6) 0).1 = fM at hM e2 hh
  refine ⟨_, _, _, hX, hM, ⟨?_, ?_, ?_, ?_, ?_, h.d6, ?_, ?_, ?_, ?_, ?_⟩, ?_, rfl⟩
  · intro q h1 h2
    rw [zSR_n (show q ≠ zaF 1 from h2)]
    exact h.x q h1 h2
  · rw [show 17 = zaF 1 from rfl, zSR_s]
    exact hF
  · rw [show 17 = zaF 1 from rfl, zSR_s, zSR_s]
    exact e2
  · rw [zSR_n (by decide)]; exact h.dx
  · rw [zSR_n (by decide)]; exact h.dm
  · intro q hq
    rw [zSR_n (by omega)]
    exact h.m q hq
  · intro k hk
    rw [zSR_n (by decide)]
    exact h.m0 k hk
  · intro k hk
    rw [zSR_n (by decide)]
    exact h.k k hk
  · rw [zSR_n (by decide)]
    exact h.k0
  · intro k hk
    rw [zSR_s, hh k hk]
    exact h.hi k hk
  · intro k
    rw [zSR_n (by decide)]
theorem zT_end {I J T U' : zxI} {G d : Nat} {U : zxI} (h : zR I J) (ht : zTT I J T U G d) (h1 : ∀ q, 1 ≤ q → q ≠ 10 → U' q = J q) (h2 : ∀ k, k < 20 ∨ k = 25 → U' 0 k = J 0 k) : zR T U' :=
  zR_f h (fun q hq => ht.x q (by omega) (by omega)) ⟨fun q hq => h1 q (by omega) (by omega), h2⟩
