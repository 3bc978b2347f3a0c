/-! order -/
theorem zDF_w {T T' : zxI} {p : Nat} (h : zDF T T' (p + 1)) : zDF T T' p := ⟨fun q hq => h.1 q (by omega), fun k hk => h.2 k (by omega)⟩
theorem zdf_L {I J : zxI} {G W n p m d u : Nat} {f : Nat → Int32} {rec : Int32 → Int32 → zxI → Option (Int32 × zxI)} (hc : zRc I J G W) (h35 : I 35 0 = nI n) (hn : n ≤ 6) (hP : ∀ p, p < n → zPx I G W p) (hp : p + (m + 1) = n) (hu : u < 64) (hd : d < 64) (hrec : ∀ u' T f, u' < 64 → zDX I T (p + 1) d f → ∃ b T', rec (nI (p + 1)) (nI u') T = some (b, T') ∧ zDF T T' (p + 1) ∧ zRes (p + 1) ((zlx n m u').find? (fun l => zqt I G (nI d) l f)) b T') : ∀ (k q fuel : Nat) (T : zxI), q + k = n → k < fuel → zDX I T p d f → ∃ b T', fX6_endsOrder_L21 rec fuel (nI p) (nI u) (nI q) T = some (b, T') ∧ zDF T T' p ∧ zRes p ((zlxL (fun a => zlx n m (u ||| 2 ^ a)) u k q).find? (fun l => zqt I G (nI d) l f)) b T' := by
  intro k
  induction k with
  | zero =>
    intro q fuel T hq hf hT
    obtain ⟨fuel, rfl⟩ : ∃ x, fuel = x + 1 := ⟨fuel - 1, by omega⟩
    have r35 : T 35 0 = nI n := by rw [hT.1 35 (by omega)]; exact h35
    have t : nI n ≤ nI q := nI_le (by omega) (by omega)
    refine ⟨0, T, ?_, zDF_r, rfl⟩
    rw [fX6_endsOrder_L21, r35, if_pos t]
  | succ k ih =>
    intro q fuel T hq hf hT
    obtain ⟨fuel, rfl⟩ : ∃ x, fuel = x + 1 := ⟨fuel - 1, by omega⟩
    have r35 : T 35 0 = nI n := by rw [hT.1 35 (by omega)]; exact h35
    have t : ¬ nI n ≤ nI q := nI_ge (by omega) (by omega)
    have h6 : G ≤ 6 := hc.2.2.2.1
    rw [fX6_endsOrder_L21, r35, if_neg t]
    simp only [nI_1]
    by_cases cb : u.testBit q = true
    · have t2 : ¬ ((nI u >>> (nI q &&& 31)) &&& 1) = 0 := fun z => by
        rw [(zd_tb u hu q (by omega)).mp z] at cb
        cases cb
      rw [if_neg t2]
      obtain ⟨b, T', e1, e2, e3⟩ := ih (q + 1) fuel T (by omega) (by omega) hT
      refine ⟨b, T', e1, e2, ?_⟩
      rw [zlxL, if_pos cb, List.nil_append]
      exact e3
    · have t2 : ((nI u >>> (nI q &&& 31)) &&& 1) = 0 := (zd_tb u hu q (by omega)).mpr (by simpa using cb)
      obtain ⟨T1, T3, y1, y2, y3, y4, y5, y6, y7, y8⟩ := zDX_ch (n := n) (q := q) hc (hP q (by omega)) (by omega) hT hd
      rw [if_pos t2, if_pos (zq_in (show p + 1 < 7 by omega) (by decide)), if_pos (zq_in (show p < 7 by omega) (by decide)), zq_cl (show p + 1 < 2 ^ 31 by omega), zq_cl (show p < 2 ^ 31 by omega), y1, zxV_s, if_pos (zq_in (show p < 6 by omega) (by decide)), if_pos (zq_in (show q < 20 by omega) (by decide)), zq_cl (show q < 2 ^ 31 by omega), y2, y3, y4, y5, zxB_s, (zd_bitS u hu q (by omega)).1]
      rw [zlxL, if_neg cb, List.find?_append]
      have cont : ∀ T4, zDF T T4 p → ∃ b T', fX6_endsOrder_L21 rec fuel (nI p) (nI u) (nI (q + 1)) T4 = some (b, T') ∧ zDF T T' p ∧ zRes p ((none : Option (List Nat)).or ((zlxL (fun a => zlx n m (u ||| 2 ^ a)) u k (q + 1)).find? (fun l => zqt I G (nI d) l f))) b T' := by
        intro T4 h4
        obtain ⟨b, T', e1, e2, e3⟩ := ih (q + 1) fuel T4 (by omega) (by omega) (zDX_f hT h4)
        exact ⟨b, T', e1, zDF_t h4 e2, e3⟩
      by_cases cs : (zst I G (nI d) q f).1 = 0
      · rw [if_pos cs]
        obtain ⟨b, T4, e1, e2, e3⟩ := hrec (u ||| 2 ^ q) T3 _ (zd_bitS u hu q (by omega)).2 (y8 cs)
        have h4 : zDF T T4 p := zDF_t y6 (zDF_w e2)
        rw [e1, zxB_s, zfind_cons (P' := fun l => zqt I G (nI d) l (zst I G (nI d) q f).2.1) (fun l hl => by
          show zqt I G (nI d) (q :: l) f = _
          rw [zqt, if_pos cs])]
        cases ef : (zlx n m (u ||| 2 ^ q)).find? (fun l => zqt I G (nI d) l (zst I G (nI d) q f).2.1) with
        | none =>
          rw [ef] at e3
          have eb : b = 0 := e3
          rw [if_pos eb]
          exact cont T4 h4
        | some l =>
          rw [ef] at e3
          obtain ⟨eb, e3⟩ : b = 1 ∧ ∀ j a, l[j]? = some a → T4 38 (p + 1 + j) = nI a := e3
          have nb : ¬ b = 0 := by rw [eb]; decide
          rw [if_neg nb]
          refine ⟨1, T4, rfl, h4, rfl, ?_⟩
          intro j a hj
          cases j with
          | zero =>
            have ea : q = a := Option.some.inj hj
            rw [Nat.add_zero, e2.2 p (by omega), y7, ea]
          | succ j =>
            have := e3 j a hj
            rw [show p + (j + 1) = p + 1 + j by omega]
            exact this
      · rw [if_neg cs, zfind_no (fun l hl => by
          show zqt I G (nI d) (q :: l) f = false
          rw [zqt, if_neg cs])]
        exact cont T3 y6
theorem zdf_N {I J : zxI} {G W n d : Nat} (hc : zRc I J G W) (h35 : I 35 0 = nI n) (hn : n ≤ 6) (hP : ∀ p, p < n → zPx I G W p) (hd : d < 64) : ∀ (m p u fuel : Nat) (T : zxI) (f : Nat → Int32), p + m = n → m < fuel → u < 64 → zDX I T p d f → ∃ b T', fX6_endsOrder fuel (nI p) (nI u) T = some (b, T') ∧ zDF T T' p ∧ zRes p ((zlx n m u).find? (fun l => zqt I G (nI d) l f)) b T' := by
  intro m
  induction m with
  | zero =>
    intro p u fuel T f hp hf hu hT
    obtain ⟨fuel, rfl⟩ : ∃ x, fuel = x + 1 := ⟨fuel - 1, by omega⟩
    have r35 : T 35 0 = nI n := by rw [hT.1 35 (by omega)]; exact h35
    have t : nI n ≤ nI p := nI_le (by omega) (by omega)
    refine ⟨1, T, ?_, zDF_r, rfl, ?_⟩
    · rw [fX6_endsOrder, r35, if_pos t]
    · intro j a hj
      cases hj
  | succ m ih =>
    intro p u fuel T f hp hf hu hT
    obtain ⟨fuel, rfl⟩ : ∃ x, fuel = x + 1 := ⟨fuel - 1, by omega⟩
    have r35 : T 35 0 = nI n := by rw [hT.1 35 (by omega)]; exact h35
    have t : ¬ nI n ≤ nI p := nI_ge (by omega) (by omega)
    have t6 : nI p < 6 := nI_lt (b := 6) (by omega) (by decide)
    rw [fX6_endsOrder, r35, if_neg t, if_pos t6]
    exact zdf_L hc h35 hn hP hp hu hd (fun u' T' f' hu' hT' => ih (p + 1) u' fuel T' f' (by omega) (by omega) hu' hT') n 0 1000 T (by omega) (by omega) hT
/-- the relation's first half after the reference's rows have changed -/
theorem zRc_M {I J U : zxI} {G W : Nat} (hc : zRc I J G W) (h : zMf J U) : zRc I U G W :=
  zRc_fr hc rfl rfl rfl rfl rfl rfl rfl rfl rfl rfl rfl (h.2 0 (by omega)) (h.2 1 (by omega)) (h.2 5 (by omega)) (h.2 6 (by omega)) (h.2 7 (by omega)) (h.2 8 (by omega)) (h.2 9 (by omega)) (h.2 25 (by omega)) (h.1 4 (by omega)) (h.1 5 (by omega)) (h.1 6 (by omega)) (h.1 7 (by omega)) (h.1 13 (by omega)) (h.1 14 (by omega)) (h.1 15 (by omega))
/-- a breath of a trial, with what comes of it -/
theorem zT_br2 {I J T U : zxI} {G W d g w : Nat} (hc : zRc I J G W) (h : zTT I J T U G d) (hdr : U 0 9 = I 10 5) (hg : g < G) (hw : w < W) : ∃ T' U' s, fX7_breathe (nI g) (nI w) U = some (nI s, U') ∧ s < 64 ∧ zTT I J T' U' G (d ||| s) ∧ (∀ k, k ≠ 8 → U' 0 k = U 0 k) ∧ nI s = (zbr G (I 10 5) (I 11) (I 12) (I 13) (T 17) (nI d) g w).1 ∧ T' 17 = (zbr G (I 10 5) (I 11) (I 12) (I 13) (T 17) (nI d) g w).2.1 := by
  obtain ⟨T', U', s, hX, hM, hs, hz, hT', hk⟩ := zT_br hc h hdr hg hw
  obtain ⟨c1, c2, c3, c4, c5, c6, c7, c8, c9, c10, c11, c12, c13, c14, c15, c16, c17, c18, c19, c20, c21, c22, -⟩ := hc
  have hX2 := zX_br (j := 1) (dr := I 10 5) (I := T) (G := G) (g := g) (w := w) (by rw [h.x 10 (by omega) (by omega)]; exact c1) c4 h.f (by omega) (by omega) (by rw [h.x 11 (by omega) (by omega)]; exact c21 w (by omega))
  rw [hX, h.x 11 (by omega) (by omega), h.x 12 (by omega) (by omega), h.x 13 (by omega) (by omega), show T (zaO 1) 1 = nI d from h.dx, show T (zaF 1) = T 17 from rfl] at hX2
  have e := Option.some.inj hX2
  have e1 := congrArg Prod.fst e
  have e2 := congrArg Prod.snd e
  refine ⟨T', U', s, hM, hs, hT', hk, e1, ?_⟩
  have e2' : T' = zAX T 1 (zbr G (I 10 5) (I 11) (I 12) (I 13) (T 17) (nI d) g w).2.1 (zbr G (I 10 5) (I 11) (I 12) (I 13) (T 17) (nI d) g w).2.2 := e2
  rw [e2']
  show zxU (zSR T (zaF 1) _) (zaO 1) 1 _ 17 = _
  rw [zxU_q (show 17 ≠ zaO 1 by decide), show 17 = zaF 1 from rfl, zSR_s]
theorem zqu_L {I J : zxI} {k i G W n d : Nat} (hc : zRc I J G W) (h9 : J 0 9 = I 10 5) (hn : n ≤ 6) (hk : k < 4) (hi : i + 2 * n ≤ 60) (hP : ∀ p, p < n → zPr I J k i G W p) : ∀ (l : List Nat) (p fuel : Nat) (T U : zxI) (f : Nat → Int32), p + l.length = n → l.length < fuel → (∀ a, a ∈ l → a < n) → (∀ j a, l[j]? = some a → U 11 (p + j) = nI a) → zTT I J T U G d → U 0 9 = J 0 9 → zE6 (T 17) f → ∃ U', fX7_isQuiet_L9 fuel (nI (60 * k + i)) (nI n) 1 (nI p) U = some (if zqt I G (nI d) l f = true then 1 else 0, U') ∧ (∀ q, 1 ≤ q → q ≠ 10 → U' q = J q) ∧ (∀ k, k < 20 ∨ k = 25 → U' 0 k = J 0 k) := by
  have back : ∀ (T U : zxI) (d : Nat), zTT I J T U G d → U 0 9 = J 0 9 → ∃ U', fX7_putBack U = some U' ∧ (∀ q, 1 ≤ q → q ≠ 10 → U' q = J q) ∧ (∀ k, k < 20 ∨ k = 25 → U' 0 k = J 0 k) := by
    intro T U d hT h9'
    obtain ⟨U', e1, e2, e3, e4⟩ := zT_1 hc hT
    refine ⟨U', e1, e2, fun k hk => ?_⟩
    by_cases e : k = 9
    · subst e
      rw [e4 9 (by decide)]; exact h9'
    · exact e3 k (by omega)
  have h6 : G ≤ 6 := hc.2.2.2.1
  have h4 : W ≤ 4 := hc.2.2.2.2.2.2.1
  intro l
  induction l with
  | nil =>
    intro p fuel T U f hp hf _ _ hT h9' _
    obtain ⟨fuel, rfl⟩ : ∃ x, fuel = x + 1 := ⟨fuel - 1, by omega⟩
    obtain ⟨U', e1, e2, e3⟩ := back T U d hT h9'
    have hp' : p = n := hp
    have t : nI n ≤ nI p := nI_le (by omega) (by omega)
    refine ⟨U', ?_, e2, e3⟩
    rw [fX7_isQuiet_L9, if_pos t, e1, zxV_s]
    rfl
  | cons a l ih =>
    intro p fuel T U f hp hf hl h11 hT h9' hE
    rw [List.length_cons] at hp hf
    obtain ⟨fuel, rfl⟩ : ∃ x, fuel = x + 1 := ⟨fuel - 1, by omega⟩
    have han : a < n := hl a (List.mem_cons_self ..)
    have t : ¬ nI n ≤ nI p := nI_ge (by omega) (by omega)
    have t0 : ¬ (1 : Int32) = 0 := by decide
    have ea : U 11 p = nI a := h11 0 a rfl
    obtain ⟨g, w, hg, hw, e1, e2, e3, e4⟩ := hP a han
    have u3 : U 3 = J 3 := hT.m 3 (by omega)
    obtain ⟨T', U', s, y1, y2, y3, y4, y5, y6⟩ := zT_br2 hc hT (by rw [h9']; exact h9) hg hw
    have a2 : nI (60 * k + i) + (2 : Int32) * nI a = nI (60 * k + i + 2 * a) := by rw [show (2 : Int32) = nI 2 from rfl, pk_mul, nI_add]
    obtain ⟨z1, z2, z3⟩ := zbr_E (dr := I 10 5) (b := I 11) (ks := I 12) (ss := I 13) (d := nI d) (w := w) h6 hE (show g < 6 by omega)
    have es : zst I G (nI d) a f = zbr G (I 10 5) (I 11) (I 12) (I 13) f (nI d) g w := zst_eq e1 e2 (by omega) (by omega)
    rw [z1, ← es] at y5
    rw [← es] at z2
    rw [fX7_isQuiet_L9, if_neg t, if_neg t0, if_pos (zq_in (show p < 6 by omega) (by decide)), zq_cl (show p < 2 ^ 31 by omega), ea, a2, nI_1, if_pos (zq_in (show 60 * k + i + 2 * a < 240 by omega) (by decide)), if_pos (zq_in (show 60 * k + i + 2 * a + 1 < 240 by omega) (by decide)), zq_cl (show 60 * k + i + 2 * a < 2 ^ 31 by omega), zq_cl (show 60 * k + i + 2 * a + 1 < 2 ^ 31 by omega), u3, e3, e4, y1, zxB_s, nI_1, zqt, ← y5]
    by_cases q : nI s = 0
    · have s0 : s = 0 := (nI_eq (b := 0) (by omega) (by omega)).mp q
      rw [if_pos q, if_pos q]
      subst s0
      rw [Nat.or_zero] at y3
      exact ih (p + 1) fuel T' U' _ (by omega) (by omega) (fun b hb => hl b (List.mem_cons_of_mem _ hb)) (fun j b hj => by
        have := h11 (j + 1) b hj
        rw [y3.m 11 (by omega), ← hT.m 11 (by omega), show p + 1 + j = p + (j + 1) by omega]
        exact this) y3 (by rw [y4 9 (by decide)]; exact h9') (by rw [y6]; exact z2)
    · rw [if_neg q, if_neg q]
      obtain ⟨fuel, rfl⟩ : ∃ x, fuel = x + 1 := ⟨fuel - 1, by omega⟩
      obtain ⟨U'', b1, b2, b3⟩ := back T' U' _ y3 (by rw [y4 9 (by decide)]; exact h9')
      refine ⟨U'', ?_, b2, b3⟩
      rw [fX7_isQuiet_L9, b1, zxV_s]
      by_cases q2 : nI n ≤ nI (p + 1)
      · rw [if_pos q2]
        rfl
      · rw [if_neg q2]
        rfl
def zoRes (y : Nat) : Option (List Nat) → Int32
  | none => -9
  | some l => nI (l[y]?.getD 0)
theorem zT_00 {I T : zxI} (h : fX0_becomeLike 1 0 I = some T) : zE6 (T 17) (I (zaF 0)) := by
  rw [zX_bl] at h
  have e := Option.some.inj h
  rw [← e, zxU_q (show 17 ≠ zaO 1 by decide), show 17 = zaF 1 from rfl, zSR_s]
  exact zcpy_6
theorem zPr_M {I J U : zxI} {k i G W p : Nat} (h : zPr I J k i G W p) (e : U 3 = J 3) : zPr I U k i G W p := by
  obtain ⟨g, w, hg, hw, e1, e2, e3, e4⟩ := h
  exact ⟨g, w, hg, hw, e1, e2, by rw [e]; exact e3, by rw [e]; exact e4⟩
/-- the reference's search -/
theorem zor_L {I J : zxI} {k i G W n d y : Nat} (hc : zRc I J G W) (hn : n ≤ 6) (hy : y < n) (hk : k < 4) (hi : i + 2 * n ≤ 60) (hP : ∀ p, p < n → zPr I J k i G W p) (hd : I (zaO 0) 1 = nI d) (hd6 : d < 64) : ∀ (L : List (List Nat)) (t fuel : Nat) (U : zxI), (∀ j, L[j]? = (zlx n n 0)[t + j]?) → t + L.length = (zlx n n 0).length → L.length < fuel → zMf J U → ∃ U', fX7_order_L46 fuel (nI k) (nI i) (nI n) (nI y) (nI t) U = some (zoRes y (L.find? (fun l => zqt I G (nI d) l (I (zaF 0)))), U') ∧ zMf J U' := by
  obtain ⟨l1, l2, l3⟩ := zoL hn
  intro L
  induction L with
  | nil =>
    intro t fuel U hL ht hf hM
    obtain ⟨fuel, rfl⟩ : ∃ x, fuel = x + 1 := ⟨fuel - 1, by omega⟩
    have t' : t = zfact n := by rw [← l1, ← ht]; rfl
    have tt : nI (zfact n) ≤ nI t := nI_le (by omega) (by omega)
    refine ⟨U, ?_, hM⟩
    rw [fX7_order_L46, zM_ords hn, zxB_s, if_pos tt]
    rfl
  | cons l L ih =>
    intro t fuel U hL ht hf hM
    rw [List.length_cons] at ht hf
    obtain ⟨fuel, rfl⟩ : ∃ x, fuel = x + 1 := ⟨fuel - 1, by omega⟩
    have tt : ¬ nI (zfact n) ≤ nI t := nI_ge (by omega) (by omega)
    have hl : (zlx n n 0)[t]? = some l := (hL 0).symm
    have hlt := zlx_lt n 0 l (List.mem_of_getElem? hl)
    obtain ⟨U1, e1, e2, e3, e4⟩ := zM_ord hn hl U
    have hM1 : zMf J U1 := ⟨fun q hq => (e3 q (by omega)).trans (hM.1 q hq), fun k hk => by rw [e3 0 (by decide)]; exact hM.2 k hk⟩
    have hc1 := zRc_M hc hM1
    obtain ⟨T, U2, d', y1, y2, hT, yd, y9⟩ := zT_0 hc1
    have ed : d' = d := (nI_eq (by have := hT.d6; omega) (by omega)).mp (yd.symm.trans hd)
    subst ed
    have a2 : (60 : Int32) * nI k + nI i = nI (60 * k + i) := by rw [show (60 : Int32) = nI 60 from rfl, pk_mul, nI_add]
    obtain ⟨U3, z1, z2, z3⟩ := zqu_L hc1 (zc14 hc1) hn hk hi (fun p hp => zPr_M (hP p hp) (hM1.1 3 (by omega))) l 0 1000 T U2 (I (zaF 0)) (by omega) (by omega) hlt (fun j a hj => by
      rw [hT.m 11 (by omega), Nat.zero_add]
      have hjn : j < n := by
        have := (List.getElem?_eq_some_iff.mp hj).1
        omega
      obtain ⟨a', b1, b2⟩ := e4 j hjn
      rw [hj] at b1
      rw [Option.some.inj b1]
      exact b2) hT y9 (zT_00 y1)
    have hM3 : zMf J U3 := zMf_t hM1 ⟨fun q hq => z2 q (by omega) (by omega), z3⟩
    rw [fX7_order_L46, zM_ords hn, zxB_s, if_neg tt, e1, zxV_s, a2]
    unfold fX7_isQuiet
    rw [y2, zxV_s, show (0 : Int32) = nI 0 from rfl, z1, zxB_s, nI_1, List.find?_cons]
    cases q : zqt I G (nI d') l (I (zaF 0)) with
    | false =>
      rw [if_pos (by decide : (if false = true then (1 : Int32) else 0) = nI 0)]
      exact ih (t + 1) fuel U3 (fun j => by rw [show t + 1 + j = t + (j + 1) by omega]; exact hL (j + 1)) (by omega) (by omega) hM3
    | true =>
      obtain ⟨a, b1, b2⟩ := e4 y hy
      rw [if_pos rfl, if_neg (by decide), if_pos (zq_in (show y < 6 by omega) (by decide)), zq_cl (show y < 2 ^ 31 by omega), z2 11 (by omega) (by omega), b2]
      refine ⟨U3, ?_, hM3⟩
      show some (nI a, U3) = some (nI (l[y]?.getD 0), U3)
      rw [b1]
      rfl
theorem zor_all {I J : zxI} {k i n y G W : Nat} (hk : k < 4) (hn : n ≤ 6) (hy : y < n) (h : zR I J) (hc : zRc I J G W) (hi : i + 2 * n ≤ 60) (h35 : I 35 0 = nI n) (hP : ∀ p, p < n → zPr I J k i G W p) : zP (zxV (fX0_becomeLike 1 0 I) (fun I_14 => zxB (fX6_endsOrder 20 0 0 I_14) (fun r_15 I_15 => if r_15 = 0 then some (-9, I_15) else if zxIn (nI y) 6 = true then some (I_15 38 (nI y).toNatClampNeg, I_15) else none))) (fX7_order_L46 1000 (nI k) (nI i) (nI n) (nI y) 0 J) := by
  obtain ⟨T, U, d, e1, e2, hT, ed, -⟩ := zT_0 hc
  obtain ⟨l1, l2, l3⟩ := zoL hn
  have hDX : zDX I T 0 d (I (zaF 0)) := ⟨fun q hq => hT.x q (by omega) (by omega), hT.f, zT_00 e1, hT.dx⟩
  obtain ⟨b, T', f1, f2, f3⟩ := zdf_N hc h35 hn (fun p hp => zPx_of (hP p hp)) hT.d6 n 0 0 20 T (I (zaF 0)) (by omega) (by omega) (by decide) hDX
  obtain ⟨U', g1, g2⟩ := zor_L hc hn hy hk hi hP ed hT.d6 (zlx n n 0) 0 1000 J (fun j => by rw [Nat.zero_add]) (by omega) (by omega) zMf_r
  have hX : zXf I T' := fun q hq => (f2.1 q (by omega)).trans (hT.x q (by omega) (by omega))
  rw [show nI 0 = (0 : Int32) from rfl] at f1 g1
  rw [e1, zxV_s, f1, zxB_s, g1]
  cases ef : (zlx n n 0).find? (fun l => zqt I G (nI d) l (I (zaF 0))) with
  | none =>
    rw [ef] at f3
    have eb : b = 0 := f3
    rw [if_pos eb]
    exact zP_ok (zR_f h hX g2)
  | some l =>
    rw [ef] at f3
    obtain ⟨eb, f3⟩ : b = 1 ∧ ∀ j a, l[j]? = some a → T' 38 (0 + j) = nI a := f3
    have nb : ¬ b = 0 := by rw [eb]; decide
    obtain ⟨t, ht⟩ := List.mem_iff_getElem?.mp (List.mem_of_find?_eq_some ef)
    obtain ⟨U1, -, -, -, e4⟩ := zM_ord hn ht J
    obtain ⟨a, b1, -⟩ := e4 y hy
    have f4 := f3 y a b1
    rw [Nat.zero_add] at f4
    rw [if_neg nb, if_pos (zq_in (show y < 6 by omega) (by decide)), zq_cl (show y < 2 ^ 31 by omega), f4]
    have : zoRes y (some l) = nI a := by
      show nI (l[y]?.getD 0) = nI a
      rw [b1]
      rfl
    rw [this]
    exact zP_ok (zR_f h hX g2)
theorem zi_od {α : Type} {x : Int32} {A B : α} : (if x < 0 then A else if x < 6 then B else A) = if 0 ≤ x ∧ x ≤ 5 then B else A := by grind
theorem zop_order {I J : zxI} (h : zR I J) (x1 x2 x3 x4 x5 : Int32) : zP (fX6_order x1 x2 x3 x4 x5 I) (fX7_order x1 x2 x3 x4 x5 J) := by
  have h := zR_fault h 0
  unfold fX6_order fX7_order
  generalize zxU I 0 10 0 = I at h ⊢
  generalize zxU J 0 0 0 = J at h ⊢
  simp only [zX_isS, zX_isL, zM_wi, zxB_s, zi_b, zi_od]
  exact zref h x1 x2 x3 x4 (lim := 6) (by omega) (0 ≤ x5 ∧ x5 ≤ 5)
    (K := fun r_2 I_2 => if r_2 = 0 then (if x5 < x4 then fX7_order_L46 1000 x1 x3 x4 x5 0 I_2 else some (-9, I_2)) else some (r_2, I_2))
    (KX := fun I_10 => if x5 < I_10 35 0 then zxV (fX0_becomeLike 1 0 I_10) (fun I_14 => zxB (fX6_endsOrder 20 0 0 I_14) (fun r_15 I_15 => if r_15 = 0 then some (-9, I_15) else if zxIn x5 6 = true then some (I_15 38 x5.toNatClampNeg, I_15) else none)) else some (-9, I_10))
    (fun r J' hr => if_neg hr)
    (fun k n i G W I' hk hn e1 e4 e3 hb hz => by
      subst e1 e4 e3
      obtain ⟨y, hy, rfl⟩ := zq_ofL (n := 5) rfl hb
      show zP (if nI y < I' 35 0 then _ else _) (if nI y < nI n then _ else _)
      rw [hz.2.2.2.2.2.2.1]
      refine zP_ite (fun q => ?_) (fun _ => zP_ok hz.2.2.1)
      exact zor_all hk hn ((nI_ltI (by omega) (by omega)).mp q) hz.2.2.1 hz.2.2.2.1 hz.2.2.2.2.1 hz.2.2.2.2.2.2.1 hz.2.2.2.2.2.2.2)
