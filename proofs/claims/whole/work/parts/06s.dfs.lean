/-! the class's search for an order -/
def zst (I : zxI) (G : Nat) (d : Int32) (a : Nat) (f : Nat → Int32) : Int32 × (Nat → Int32) × Int32 := zbr G (I 10 5) (I 11) (I 12) (I 13) f d (I 36 a).toNatClampNeg (I 37 a).toNatClampNeg
def zqt (I : zxI) (G : Nat) (d : Int32) : List Nat → (Nat → Int32) → Bool
  | [], _ => true
  | a :: l, f => if (zst I G d a f).1 = 0 then zqt I G d l (zst I G d a f).2.1 else false
/-- a pair, on the class's side alone -/
def zPx (I : zxI) (G W p : Nat) : Prop := ∃ g w, g < G ∧ w < W ∧ I 36 p = nI g ∧ I 37 p = nI w
theorem zPx_of {I J : zxI} {k i G W p : Nat} (h : zPr I J k i G W p) : zPx I G W p := by
  obtain ⟨g, w, hg, hw, e1, e2, -⟩ := h
  exact ⟨g, w, hg, hw, e1, e2⟩
theorem zst_eq {I : zxI} {G a g w : Nat} {d : Int32} {f : Nat → Int32} (e1 : I 36 a = nI g) (e2 : I 37 a = nI w) (hg : g < 6) (hw : w < 4) : zst I G d a f = zbr G (I 10 5) (I 11) (I 12) (I 13) f d g w := by
  unfold zst
  rw [e1, e2, zq_cl (by omega), zq_cl (by omega)]
theorem zst_F {I : zxI} {G W a : Nat} {d : Int32} {f : Nat → Int32} (hp : zPx I G W a) (h6 : G ≤ 6) (h4 : W ≤ 4) (hF : zF f) (hb : ∀ w, w < 4 → ∃ v, v < 10 ∧ I 11 w = nI v) : zF (zst I G d a f).2.1 := by
  obtain ⟨g, w, hg, hw, e1, e2⟩ := hp
  rw [zst_eq e1 e2 (by omega) (by omega)]
  exact zbr_F h6 hF (by omega) (hb w (by omega))
theorem zst_E {I : zxI} {G W a : Nat} {d : Int32} {f f' : Nat → Int32} (hp : zPx I G W a) (h6 : G ≤ 6) (h4 : W ≤ 4) (h : zE6 f f') : (zst I G d a f).1 = (zst I G d a f').1 ∧ zE6 (zst I G d a f).2.1 (zst I G d a f').2.1 := by
  obtain ⟨g, w, hg, hw, e1, e2⟩ := hp
  rw [zst_eq e1 e2 (by omega) (by omega), zst_eq e1 e2 (by omega) (by omega)]
  have := zbr_E (dr := I 10 5) (b := I 11) (ks := I 12) (ss := I 13) (d := d) (w := w) h6 h (show g < 6 by omega)
  exact ⟨this.1, this.2.1⟩
theorem zqt_E {I : zxI} {G W n : Nat} {d : Int32} (hP : ∀ p, p < n → zPx I G W p) (h6 : G ≤ 6) (h4 : W ≤ 4) : ∀ (l : List Nat) (f f' : Nat → Int32), (∀ a, a ∈ l → a < n) → zE6 f f' → zqt I G d l f = zqt I G d l f' := by
  intro l
  induction l with
  | nil => intro f f' _ _; rfl
  | cons a l ih =>
    intro f f' hl h
    obtain ⟨e1, e2⟩ := zst_E (d := d) (hP a (hl a (List.mem_cons_self ..))) h6 h4 h
    unfold zqt
    rw [e1]
    by_cases c : (zst I G d a f').1 = 0
    · rw [if_pos c, if_pos c]
      exact ih _ _ (fun b hb => hl b (List.mem_cons_of_mem _ hb)) e2
    · rw [if_neg c, if_neg c]
theorem zlxL_lt {sub : Nat → List (List Nat)} {u n : Nat} (hs : ∀ q, q < n → ∀ l, l ∈ sub q → ∀ a, a ∈ l → a < n) : ∀ (k q : Nat), q + k = n → ∀ l, l ∈ zlxL sub u k q → ∀ a, a ∈ l → a < n := by
  intro k
  induction k with
  | zero => intro q _ l hl; cases hl
  | succ k ih =>
    intro q hq l hl
    unfold zlxL at hl
    rcases List.mem_append.mp hl with h | h
    · by_cases c : u.testBit q = true
      · rw [if_pos c] at h; cases h
      · rw [if_neg c] at h
        obtain ⟨l', hl', e⟩ := List.mem_map.mp h
        subst e
        intro a ha
        rcases List.mem_cons.mp ha with e | ha
        · omega
        · exact hs q (by omega) l' hl' a ha
    · exact ih (q + 1) (by omega) l h
theorem zlx_lt {n : Nat} : ∀ (m u : Nat) (l : List Nat), l ∈ zlx n m u → ∀ a, a ∈ l → a < n := by
  intro m
  induction m with
  | zero =>
    intro u l hl a ha
    have : l = [] := by
      unfold zlx at hl
      exact List.mem_singleton.mp hl
    subst this
    cases ha
  | succ m ih =>
    intro u l hl
    unfold zlx at hl
    exact zlxL_lt (fun q _ l' hl' => ih (u ||| 2 ^ q) l' hl') n 0 (by omega) l hl
theorem zfind_cons {sub : List (List Nat)} {q : Nat} {P P' : List Nat → Bool} (h : ∀ l, l ∈ sub → P (q :: l) = P' l) : (sub.map (fun l => q :: l)).find? P = (sub.find? P').map (fun l => q :: l) := by
  induction sub with
  | nil => rfl
  | cons a sub ih =>
    rw [List.map_cons, List.find?_cons, List.find?_cons, h a (List.mem_cons_self ..), ih (fun l hl => h l (List.mem_cons_of_mem _ hl))]
    cases P' a <;> rfl
theorem zfind_no {sub : List (List Nat)} {q : Nat} {P : List Nat → Bool} (h : ∀ l, l ∈ sub → P (q :: l) = false) : (sub.map (fun l => q :: l)).find? P = none := by
  induction sub with
  | nil => rfl
  | cons a sub ih =>
    rw [List.map_cons, List.find?_cons, h a (List.mem_cons_self ..), ih (fun l hl => h l (List.mem_cons_of_mem _ hl))]
theorem zd_tb : ∀ u, u < 64 → ∀ q, q < 6 → (((nI u >>> (nI q &&& 31)) &&& 1) = 0 ↔ u.testBit q = false) := by decide +kernel
/-- the class's world at the depth p of the search -/
def zDX (I T : zxI) (p : Nat) (d : Nat) (f : Nat → Int32) : Prop := (∀ q, q < 16 ∨ (31 ≤ q ∧ q ≤ 37) → T q = I q) ∧ zF (T (zaF (p + 1))) ∧ zE6 (T (zaF (p + 1))) f ∧ T (zaO (p + 1)) 1 = nI d
def zDF (T T' : zxI) (p : Nat) : Prop := (∀ q, q < 18 + 2 * p ∨ (31 ≤ q ∧ q ≤ 37) → T' q = T q) ∧ ∀ k, k < p → T' 38 k = T 38 k
theorem zDF_r {T : zxI} {p : Nat} : zDF T T p := ⟨fun _ _ => rfl, fun _ _ => rfl⟩
theorem zDF_t {T T' T'' : zxI} {p : Nat} (h : zDF T T' p) (h' : zDF T' T'' p) : zDF T T'' p := ⟨fun q hq => (h'.1 q hq).trans (h.1 q hq), fun k hk => (h'.2 k hk).trans (h.2 k hk)⟩
theorem zDX_f {I T T' : zxI} {p d : Nat} {f : Nat → Int32} (h : zDX I T p d f) (h' : zDF T T' p) : zDX I T' p d f := by
  have a1 : T' (zaF (p + 1)) = T (zaF (p + 1)) := h'.1 _ (by unfold zaF; omega)
  have a2 : T' (zaO (p + 1)) = T (zaO (p + 1)) := h'.1 _ (by unfold zaO; omega)
  obtain ⟨h1, h2, h3, h4⟩ := h
  refine ⟨fun q hq => (h'.1 q (by omega)).trans (h1 q hq), by rw [a1]; exact h2, by rw [a1]; exact h3, by rw [a2]; exact h4⟩
def zRes (p : Nat) (o : Option (List Nat)) (b : Int32) (T' : zxI) : Prop := match o with
  | none => b = 0
  | some l => b = 1 ∧ ∀ j a, l[j]? = some a → T' 38 (p + j) = nI a
/-- a child is tried: the copy and the breath -/
theorem zDX_ch {I J T : zxI} {G W n p d q : Nat} {f : Nat → Int32} (hc : zRc I J G W) (hp : zPx I G W q) (hpn : p < 6) (hT : zDX I T p d f) (hd : d < 64) : ∃ T1 T3, fX0_becomeLike (p + 1 + 1) (p + 1) T = some T1 ∧ (zxU T1 38 p (nI q)) 10 = I 10 ∧ (zxU T1 38 p (nI q)) 36 = I 36 ∧ (zxU T1 38 p (nI q)) 37 = I 37 ∧ fX2_breathe (p + 1 + 1) (I 10 5) (I 36 q) (I 37 q) (zxU T1 38 p (nI q)) = some ((zst I G (nI d) q f).1, T3) ∧ zDF T T3 p ∧ T3 38 p = nI q ∧ ((zst I G (nI d) q f).1 = 0 → zDX I T3 (p + 1) d (zst I G (nI d) q f).2.1) := by
  obtain ⟨c1, c2, c3, c4, c5, c6, c7, c8, c9, c10, c11, c12, c13, c14, c15, c16, c17, c18, c19, c20, c21, c22, -⟩ := hc
  obtain ⟨t1, t2, t3, t4⟩ := hT
  obtain ⟨g, w, hg, hw, e1, e2⟩ := hp
  have nF : ∀ q', q' < 16 ∨ (31 ≤ q' ∧ q' ≤ 37) → q' ≠ zaF (p + 2) ∧ q' ≠ zaO (p + 2) := fun q' hq' => by unfold zaF zaO; omega
  have n38F : zaF (p + 2) ≠ 38 := by unfold zaF; omega
  have n38O : zaO (p + 2) ≠ 38 := by unfold zaO; omega
  obtain ⟨R, hR⟩ : ∃ R, R = va_cpy (T (zaF (p + 1))) (T (zaF (p + 2))) 0 0 6 := ⟨_, rfl⟩
  obtain ⟨T2, hT2⟩ : ∃ T2, T2 = zxU (zxU (zSR T (zaF (p + 2)) R) (zaO (p + 2)) 1 (T (zaO (p + 1)) 1)) 38 p (nI q) := ⟨_, rfl⟩
  have low : ∀ q', q' ≠ zaF (p + 2) → q' ≠ zaO (p + 2) → q' ≠ 38 → T2 q' = T q' := fun q' h1 h2 h3 => by
    rw [hT2, zxU_q h3, zxU_q h2, zSR_n h1]
  have rT : ∀ q', q' < 16 ∨ (31 ≤ q' ∧ q' ≤ 37) → T2 q' = I q' := fun q' hq' => by
    rw [low q' (nF q' hq').1 (nF q' hq').2 (by omega)]; exact t1 q' hq'
  have rowF : T2 (zaF (p + 2)) = R := by rw [hT2, zxU_q n38F, zxU_q za_ne3, zSR_s]
  have rowO : T2 (zaO (p + 2)) 1 = nI d := by rw [hT2, zxU_q n38O, zxU_s, t4]
  have r38 : T2 38 p = nI q := by rw [hT2, zxU_s]
  have r38k : ∀ k, k < p → T2 38 k = T 38 k := fun k hk => by rw [hT2, zxU_k (by omega), zxU_q (Ne.symm n38O), zSR_n (Ne.symm n38F)]
  have hE : zE6 R f := fun k hk => by rw [hR]; exact (zcpy_6 k hk).trans (t3 k hk)
  have hF : zF R := by rw [hR]; exact zF_E t2 zcpy_6
  have hX := zX_br (j := p + 2) (dr := I 10 5) (I := T2) (G := G) (g := g) (w := w) (by rw [rT 10 (by omega)]; exact c1) c4 (by rw [rowF]; exact hF) (by omega) (by omega) (by rw [rT 11 (by omega)]; exact c21 w (by omega))
  rw [rT 11 (by omega), rT 12 (by omega), rT 13 (by omega), rowF, rowO] at hX
  obtain ⟨y1, y2, y3⟩ := zbr_E (dr := I 10 5) (b := I 11) (ks := I 12) (ss := I 13) (d := nI d) (w := w) c4 hE (show g < 6 by omega)
  have hFF := zbr_F (dr := I 10 5) (ks := I 12) (ss := I 13) (d := nI d) c4 hF (show g < 6 by omega) (c21 w (by omega))
  have es : zst I G (nI d) q f = zbr G (I 10 5) (I 11) (I 12) (I 13) f (nI d) g w := zst_eq e1 e2 (by omega) (by omega)
  rw [y1, y3] at hX
  generalize (zbr G (I 10 5) (I 11) (I 12) (I 13) R (nI d) g w).2.1 = F3 at hX hFF y2
  have hd' : (zbr G (I 10 5) (I 11) (I 12) (I 13) f (nI d) g w).2.2 = nI d ||| (zbr G (I 10 5) (I 11) (I 12) (I 13) f (nI d) g w).1 := rfl
  rw [hd'] at hX
  rw [← es] at hX y2
  generalize zst I G (nI d) q f = S at hX y2 ⊢
  obtain ⟨T3, hT3⟩ : ∃ T3, T3 = zAX T2 (p + 2) F3 (nI d ||| S.1) := ⟨_, rfl⟩
  rw [← hT3] at hX
  unfold zAX at hT3
  have low3 : ∀ q', q' ≠ zaF (p + 2) → q' ≠ zaO (p + 2) → T3 q' = T2 q' := fun q' h1 h2 => by
    rw [hT3, zxU_q h2, zSR_n h1]
  have h38 : T3 38 = T2 38 := low3 38 (Ne.symm n38F) (Ne.symm n38O)
  have hbl : fX0_becomeLike (p + 1 + 1) (p + 1) T = some (zxU (zSR T (zaF (p + 2)) R) (zaO (p + 2)) 1 (T (zaO (p + 1)) 1)) := by rw [hR]; exact zX_bl T
  refine ⟨zxU (zSR T (zaF (p + 2)) R) (zaO (p + 2)) 1 (T (zaO (p + 1)) 1), T3, hbl, ?_, ?_, ?_, ?_, ⟨?_, ?_⟩, ?_, ?_⟩
  · rw [← hT2]; exact rT 10 (by omega)
  · rw [← hT2]; exact rT 36 (by omega)
  · rw [← hT2]; exact rT 37 (by omega)
  · rw [← hT2, e1, e2]
    exact hX
  · intro q' hq'
    have n1 : q' ≠ zaF (p + 2) := by unfold zaF; omega
    have n2 : q' ≠ zaO (p + 2) := by unfold zaO; omega
    rw [low3 q' n1 n2, low q' n1 n2 (by omega)]
  · intro k hk
    rw [h38]; exact r38k k hk
  · rw [h38]; exact r38
  · intro hs
    refine ⟨?_, ?_, ?_, ?_⟩
    · intro q' hq'
      rw [low3 q' (nF q' hq').1 (nF q' hq').2]
      exact rT q' hq'
    · rw [hT3, zxU_q za_ne3, zSR_s]
      exact hFF
    · rw [hT3, zxU_q za_ne3, zSR_s]
      exact y2
    · rw [hT3, zxU_s, hs, Int32.or_zero]
