/-! perches -/
def zct (I : zxI) : Nat → List Nat → Nat
  | _, [] => 0
  | v, a :: l => (if zbe (I 12 a) (I 13 a) < I (zaF 0) v then 0 else 1) + zct I (v + 1) l
theorem zct_le {I : zxI} : ∀ (l : List Nat) (v : Nat), zct I v l ≤ l.length := by
  intro l
  induction l with
  | nil => intro v; exact Nat.le_refl _
  | cons a l ih =>
    intro v
    have := ih (v + 1)
    unfold zct
    rw [List.length_cons]
    split <;> omega
theorem zct_app {I : zxI} : ∀ (l l' : List Nat) (v : Nat), zct I v (l ++ l') = zct I v l + zct I (v + l.length) l' := by
  intro l
  induction l with
  | nil => intro l' v; rw [List.nil_append, zct, List.length_nil, Nat.zero_add, Nat.add_zero]
  | cons a l ih =>
    intro l' v
    rw [List.cons_append, zct, zct, ih, List.length_cons, show v + 1 + l.length = v + (l.length + 1) by omega]
    omega
theorem zlxL_ln {sub : Nat → List (List Nat)} {u m : Nat} (hs : ∀ q, ∀ l, l ∈ sub q → l.length = m) : ∀ (k q : Nat), ∀ l, l ∈ zlxL sub u k q → l.length = m + 1 := by
  intro k
  induction k with
  | zero => intro q l hl; cases hl
  | succ k ih =>
    intro q l hl
    unfold zlxL at hl
    rcases List.mem_append.mp hl with h | h
    · by_cases c : u.testBit q = true
      · rw [if_pos c] at h; cases h
      · rw [if_neg c] at h
        obtain ⟨l', hl', e⟩ := List.mem_map.mp h
        subst e
        rw [List.length_cons, hs q l' hl']
    · exact ih (q + 1) l h
theorem zlx_ln {n : Nat} : ∀ (m u : Nat) (l : List Nat), l ∈ zlx n m u → l.length = m := by
  intro m
  induction m with
  | zero =>
    intro u l hl
    have : l = [] := by
      unfold zlx at hl
      exact List.mem_singleton.mp hl
    subst this
    rfl
  | succ m ih =>
    intro u l hl
    unfold zlx at hl
    exact zlxL_ln (fun q l' hl' => ih (u ||| 2 ^ q) l' hl') n 0 l hl
def zp1 (I : zxI) (s : Nat × Option (List Nat)) (l : List Nat) : Nat × Option (List Nat) := if s.1 ≤ zct I 0 l then (zct I 0 l + 1, some l) else s
def zbX (B : Nat) : Int32 := nI B - 1
def zbM (B : Nat) : Int32 := if B = 0 then -9 else nI (B - 1)
theorem zbX_lt : ∀ B, B < 8 → ∀ m, m < 13 → (zbX B < nI m ↔ B ≤ m) := by decide +kernel
theorem zbM_le : ∀ B, B < 8 → ∀ c, c < 7 → (nI c ≤ zbM B ↔ ¬ B ≤ c) := by decide +kernel
theorem zp1_skip {I : zxI} : ∀ (L : List (List Nat)) (s : Nat × Option (List Nat)), (∀ l, l ∈ L → zct I 0 l < s.1) → L.foldl (zp1 I) s = s := by
  intro L
  induction L with
  | nil => intro s _; rfl
  | cons l L ih =>
    intro s h
    have h1 := h l (List.mem_cons_self ..)
    rw [List.foldl_cons]
    have e : zp1 I s l = s := by
      unfold zp1
      rw [if_neg (by omega)]
    rw [e]
    exact ih s (fun l' hl' => h l' (List.mem_cons_of_mem _ hl'))
/-- rows that hold a list -/
def zrow (r : Nat → Int32) (l : List Nat) : Prop := ∀ j a, l[j]? = some a → r j = nI a
def zSX (r : Nat → Int32) (s : Nat × Option (List Nat)) : Prop := s.1 < 8 ∧ ∀ l, s.2 = some l → zrow r l
def zpF (T T' : zxI) (p : Nat) : Prop := (∀ q, q ≠ 39 → q ≠ 40 → q ≠ 41 → T' q = T q) ∧ ∀ k, k < p → T' 40 k = T 40 k
theorem zpF_r {T : zxI} {p : Nat} : zpF T T p := ⟨fun _ _ _ _ => rfl, fun _ _ => rfl⟩
theorem zpF_t {T T' T'' : zxI} {p : Nat} (h : zpF T T' p) (h' : zpF T' T'' p) : zpF T T'' p := ⟨fun q a b c => (h'.1 q a b c).trans (h.1 q a b c), fun k hk => (h'.2 k hk).trans (h.2 k hk)⟩
theorem zpF_w {T T' : zxI} {p : Nat} (h : zpF T T' (p + 1)) : zpF T T' p := ⟨h.1, fun k hk => h.2 k (by omega)⟩
theorem zkeep {T : zxI} {x : Int32} : fX4_keep x T = some (zSR (zxU T 39 2 x) 41 (va_cpy (T 40) (T 41) 0 0 6)) := by
  unfold fX4_keep
  rw [if_pos (by decide), zSR_C, zxU_q (show 40 ≠ 39 by decide), zxU_q (show 41 ≠ 39 by decide)]
  rfl
theorem zse_L {I : zxI} {G p m u c : Nat} {pl : List Nat} {rec : Int32 → Int32 → Int32 → zxI → Option zxI} (hG : I 10 0 = nI G) (h6 : G ≤ 6) (hp : p + (m + 1) = G) (hu : u < 64) (hpl : pl.length = p) (hc : c = zct I 0 pl) (hrec : ∀ u' T pl' c' s, u' < 64 → pl'.length = p + 1 → c' = zct I 0 pl' → (∀ q, q ≠ 39 → q ≠ 40 → q ≠ 41 → T q = I q) → zrow (T 40) pl' → T 39 2 = zbX s.1 → zSX (T 41) s → ∃ T', rec (nI (p + 1)) (nI u') (nI c') T = some T' ∧ zpF T T' (p + 1) ∧ T' 39 2 = zbX (((zlx G m u').map (fun l => pl' ++ l)).foldl (zp1 I) s).1 ∧ zSX (T' 41) (((zlx G m u').map (fun l => pl' ++ l)).foldl (zp1 I) s)) : ∀ (k q fuel : Nat) (T : zxI) (s : Nat × Option (List Nat)), q + k = G → k < fuel → (∀ q, q ≠ 39 → q ≠ 40 → q ≠ 41 → T q = I q) → zrow (T 40) pl → T 39 2 = zbX s.1 → zSX (T 41) s → ∃ T', fX6_seatFrom_L41 rec 0 fuel (nI p) (nI u) (nI c) (nI q) T = some T' ∧ zpF T T' p ∧ T' 39 2 = zbX (((zlxL (fun a => zlx G m (u ||| 2 ^ a)) u k q).map (fun l => pl ++ l)).foldl (zp1 I) s).1 ∧ zSX (T' 41) (((zlxL (fun a => zlx G m (u ||| 2 ^ a)) u k q).map (fun l => pl ++ l)).foldl (zp1 I) s) := by
  intro k
  induction k with
  | zero =>
    intro q fuel T s hq hf hT h40 h39 hs
    obtain ⟨fuel, rfl⟩ : ∃ x, fuel = x + 1 := ⟨fuel - 1, by omega⟩
    have r10 : T 10 0 = nI G := by rw [hT 10 (by omega) (by omega) (by omega)]; exact hG
    have t : nI G ≤ nI q := nI_le (by omega) (by omega)
    refine ⟨T, ?_, zpF_r, h39, hs⟩
    rw [fX6_seatFrom_L41, r10, if_pos t]
  | succ k ih =>
    intro q fuel T s hq hf hT h40 h39 hs
    obtain ⟨fuel, rfl⟩ : ∃ x, fuel = x + 1 := ⟨fuel - 1, by omega⟩
    have r10 : T 10 0 = nI G := by rw [hT 10 (by omega) (by omega) (by omega)]; exact hG
    have t : ¬ nI G ≤ nI q := nI_ge (by omega) (by omega)
    rw [fX6_seatFrom_L41, r10, if_neg t]
    simp only [nI_1]
    by_cases cb : u.testBit q = true
    · have t2 : ¬ ((nI u >>> (nI q &&& 31)) &&& 1) = 0 := fun z => by
        rw [(zd_tb u hu q (by omega)).mp z] at cb
        cases cb
      rw [if_neg t2, zlxL, if_pos cb, List.nil_append]
      exact ih (q + 1) fuel T s (by omega) (by omega) hT h40 h39 hs
    · have t2 : ((nI u >>> (nI q &&& 31)) &&& 1) = 0 := (zd_tb u hu q (by omega)).mpr (by simpa using cb)
      have hq6 : q < 6 := by omega
      have n12 : (zxU T 40 p (nI q)) 12 = I 12 := by rw [zxU_q (by decide)]; exact hT 12 (by omega) (by omega) (by omega)
      have n13 : (zxU T 40 p (nI q)) 13 = I 13 := by rw [zxU_q (by decide)]; exact hT 13 (by omega) (by omega) (by omega)
      have n15 : (zxU T 40 p (nI q)) (zaF 0) = I (zaF 0) := by rw [zxU_q (by decide)]; exact hT _ (by decide) (by decide) (by decide)
      have key : ∀ (b : Nat), b = (if zbe (I 12 q) (I 13 q) < I (zaF 0) p then 0 else 1) → ∃ T', zxV (rec (nI (p + 1)) (nI (u ||| 2 ^ q)) (nI (c + b)) (zxU T 40 p (nI q))) (fun I_11 => fX6_seatFrom_L41 rec 0 fuel (nI p) (nI u) (nI c) (nI (q + 1)) I_11) = some T' ∧ zpF T T' p ∧ T' 39 2 = zbX (((zlxL (fun a => zlx G m (u ||| 2 ^ a)) u (k + 1) q).map (fun l => pl ++ l)).foldl (zp1 I) s).1 ∧ zSX (T' 41) (((zlxL (fun a => zlx G m (u ||| 2 ^ a)) u (k + 1) q).map (fun l => pl ++ l)).foldl (zp1 I) s) := by
        intro b hb
        have hrow : zrow ((zxU T 40 p (nI q)) 40) (pl ++ [q]) := by
          intro j a hj
          by_cases e : j = p
          · subst e
            rw [← hpl, List.getElem?_concat_length] at hj
            rw [zxU_s, Option.some.inj hj]
          · rw [zxU_k e]
            have hlt : j < p := by
              have := (List.getElem?_eq_some_iff.mp hj).1
              rw [List.length_append, List.length_singleton, hpl] at this
              omega
            rw [List.getElem?_append_left (by omega)] at hj
            exact h40 j a hj
        have hcnt : c + b = zct I 0 (pl ++ [q]) := by
          rw [zct_app, hpl, Nat.zero_add, zct, zct, hc, hb]
          rfl
        obtain ⟨T1, y1, y2, y3, y4⟩ := hrec (u ||| 2 ^ q) (zxU T 40 p (nI q)) (pl ++ [q]) (c + b) s (zd_bitS u hu q hq6).2 (by rw [List.length_append, List.length_singleton, hpl]) hcnt (fun q' a1 a2 a3 => by rw [zxU_q a2]; exact hT q' a1 a2 a3) hrow (by rw [zxU_q (by decide)]; exact h39) (by rw [zxU_q (by decide)]; exact hs)
        have hF : zpF T T1 p := zpF_t ⟨fun q' a1 a2 a3 => zxU_q a2, fun k hk => zxU_k (by omega)⟩ (zpF_w y2)
        have hr1 : zrow (T1 40) pl := fun j a hj => by
          have := (List.getElem?_eq_some_iff.mp hj).1
          rw [hF.2 j (by omega)]
          exact h40 j a hj
        obtain ⟨T2, z1, z2, z3, z4⟩ := ih (q + 1) fuel T1 _ (by omega) (by omega) (fun q' a1 a2 a3 => (hF.1 q' a1 a2 a3).trans (hT q' a1 a2 a3)) hr1 y3 y4
        have eL : (((zlxL (fun a => zlx G m (u ||| 2 ^ a)) u (k + 1) q).map (fun l => pl ++ l)).foldl (zp1 I) s) = (((zlxL (fun a => zlx G m (u ||| 2 ^ a)) u k (q + 1)).map (fun l => pl ++ l)).foldl (zp1 I) (((zlx G m (u ||| 2 ^ q)).map (fun l => (pl ++ [q]) ++ l)).foldl (zp1 I) s)) := by
          rw [zlxL, if_neg cb, List.map_append, List.foldl_append, List.map_map]
          congr 3
          funext l
          show pl ++ (q :: l) = (pl ++ [q]) ++ l
          rw [List.append_assoc]
          rfl
        rw [eL]
        exact ⟨T2, by rw [y1, zxV_s, z1], zpF_t hF z2, z3, z4⟩
      rw [if_pos t2, if_pos (zq_in (show p < 6 by omega) (by decide)), zq_cl (show p < 2 ^ 31 by omega), zX_bears hq6, zxB_s, n12, n13, n15, (zd_bitS u hu q hq6).1]
      by_cases cc : zbe (I 12 q) (I 13 q) < I (zaF 0) p
      · rw [if_pos cc, show (0 : Int32) = nI 0 from rfl, nI_add]
        exact key 0 (by rw [if_pos cc])
      · rw [if_neg cc]
        exact key 1 (by rw [if_neg cc])
theorem zse_N {I : zxI} {G : Nat} (hG : I 10 0 = nI G) (h6 : G ≤ 6) : ∀ (m p u c fuel : Nat) (pl : List Nat) (T : zxI) (s : Nat × Option (List Nat)), p + m = G → m < fuel → u < 64 → pl.length = p → c = zct I 0 pl → (∀ q, q ≠ 39 → q ≠ 40 → q ≠ 41 → T q = I q) → zrow (T 40) pl → T 39 2 = zbX s.1 → zSX (T 41) s → ∃ T', fX6_seatFrom 0 fuel (nI p) (nI u) (nI c) T = some T' ∧ zpF T T' p ∧ T' 39 2 = zbX (((zlx G m u).map (fun l => pl ++ l)).foldl (zp1 I) s).1 ∧ zSX (T' 41) (((zlx G m u).map (fun l => pl ++ l)).foldl (zp1 I) s) := by
  intro m
  induction m with
  | zero =>
    intro p u c fuel pl T s hp hf hu hpl hc hT h40 h39 hs
    obtain ⟨fuel, rfl⟩ : ∃ x, fuel = x + 1 := ⟨fuel - 1, by omega⟩
    have r10 : T 10 0 = nI G := by rw [hT 10 (by omega) (by omega) (by omega)]; exact hG
    have hc6 : c ≤ 6 := by have := zct_le (I := I) pl 0; omega
    have t : nI G ≤ nI p := nI_le (by omega) (by omega)
    have eL : ((zlx G 0 u).map (fun l => pl ++ l)).foldl (zp1 I) s = zp1 I s pl := by
      show zp1 I s (pl ++ []) = _
      rw [List.append_nil]
    have hb : nI c + nI G - nI p = nI c := by rw [nI_add, show p = G by omega, pk_sub (by omega), Nat.add_sub_cancel]
    rw [eL, fX6_seatFrom, r10, h39, hb]
    unfold zp1
    rw [← hc]
    by_cases q : s.1 ≤ c
    · rw [if_pos ((zbX_lt s.1 hs.1 c (by omega)).mpr q), if_pos t, zkeep, zxV_s, if_pos q]
      refine ⟨_, rfl, ⟨fun q' a1 a2 a3 => by rw [zSR_n a3, zxU_q a1], fun k hk => by rw [zSR_n (by decide), zxU_q (by decide)]⟩, ?_, ?_, ?_⟩
      · rw [zSR_n (by decide), zxU_s]
        unfold zbX
        rw [nI_pred]
      · show c + 1 < 8
        omega
      · intro l hl
        have e : pl = l := Option.some.inj hl
        subst e
        intro j a hj
        rw [zSR_s]
        have hlt := (List.getElem?_eq_some_iff.mp hj).1
        have := zcpy_6 (f := T 40) (g := T 41) j (by omega)
        rw [this]
        exact h40 j a hj
    · rw [if_neg (fun z => q ((zbX_lt s.1 hs.1 c (by omega)).mp z)), if_neg q]
      exact ⟨T, rfl, zpF_r, h39, hs⟩
  | succ m ih =>
    intro p u c fuel pl T s hp hf hu hpl hc hT h40 h39 hs
    obtain ⟨fuel, rfl⟩ : ∃ x, fuel = x + 1 := ⟨fuel - 1, by omega⟩
    have r10 : T 10 0 = nI G := by rw [hT 10 (by omega) (by omega) (by omega)]; exact hG
    have hc6 : c ≤ p := by have := zct_le (I := I) pl 0; omega
    have t : ¬ nI G ≤ nI p := nI_ge (by omega) (by omega)
    have t6 : nI p < 6 := nI_lt (b := 6) (by omega) (by decide)
    have hb : nI c + nI G - nI p = nI (c + (m + 1)) := by
      rw [nI_add, pk_sub (by omega)]
      congr 1
      omega
    rw [fX6_seatFrom, r10, h39, hb]
    by_cases q : s.1 ≤ c + (m + 1)
    · rw [if_pos ((zbX_lt s.1 hs.1 (c + (m + 1)) (by omega)).mpr q), if_neg t, if_pos t6]
      exact zse_L hG h6 hp hu hpl hc (fun u' T' pl' c' s' a1 a2 a3 a4 a5 a6 a7 => ih (p + 1) u' c' fuel pl' T' s' (by omega) (by omega) a1 a2 a3 a4 a5 a6 a7) G 0 1000 T s (by omega) (by omega) hT h40 h39 hs
    · rw [if_neg (fun z => q ((zbX_lt s.1 hs.1 (c + (m + 1)) (by omega)).mp z)), zp1_skip _ s (fun l hl => by
        obtain ⟨l', hl', e⟩ := List.mem_map.mp hl
        subst e
        rw [zct_app, ← hc]
        have h1 := zct_le (I := I) l' (0 + pl.length)
        have h2 := zlx_ln (m + 1) u l' hl'
        omega)]
      exact ⟨T, rfl, zpF_r, h39, hs⟩
/-! the reference's perches -/
theorem zpm_84 {kk : Int32 → Int32 → zxI → Option (Int32 × zxI)} {G : Nat} {v1 v2 : Int32} (h6 : G ≤ 6) : ∀ (m v fuel : Nat) (U : zxI), U 0 5 = nI G → v + m = G → m < fuel → (∀ j, j < v → U 12 j = U 11 j) → ∃ U', fX7_findPerches_L84 kk fuel v1 v2 (nI v) U = kk v1 (v2 + 1) U' ∧ (∀ q, q ≠ 12 → U' q = U q) ∧ ∀ j, j < G → U' 12 j = U 11 j := by
  intro m
  induction m with
  | zero =>
    intro v fuel U h5 hv hf hU
    obtain ⟨fuel, rfl⟩ : ∃ x, fuel = x + 1 := ⟨fuel - 1, by omega⟩
    have t : nI G ≤ nI v := nI_le (by omega) (by omega)
    refine ⟨U, ?_, fun _ _ => rfl, fun j hj => hU j (by omega)⟩
    rw [fX7_findPerches_L84, h5, if_pos t]
  | succ m ih =>
    intro v fuel U h5 hv hf hU
    obtain ⟨fuel, rfl⟩ : ∃ x, fuel = x + 1 := ⟨fuel - 1, by omega⟩
    have t : ¬ nI G ≤ nI v := nI_ge (by omega) (by omega)
    rw [fX7_findPerches_L84, h5, if_neg t, if_pos (zq_in (show v < 6 by omega) (by decide)), zq_cl (show v < 2 ^ 31 by omega), nI_1]
    obtain ⟨U', e1, e2, e3⟩ := ih (v + 1) fuel (zxU U 12 v (U 11 v)) (by rw [zxU_q (by decide)]; exact h5) (by omega) (by omega) (fun j hj => by
      rw [zxU_q (show 11 ≠ 12 by decide)]
      by_cases e : j = v
      · subst e
        rw [zxU_s]
      · rw [zxU_k e]; exact hU j (by omega))
    exact ⟨U', e1, fun q hq => (e2 q hq).trans (zxU_q hq), fun j hj => (e3 j hj).trans (by rw [zxU_q (by decide)])⟩
theorem zpm_30 {I J : zxI} {kk : Int32 → Int32 → zxI → Option (Int32 × zxI)} {G W : Nat} {v1 v2 : Int32} (hc : zRc I J G W) {U : zxI} (hU : ∀ q, q ≠ 11 → q ≠ 12 → U q = J q) : ∀ (l : List Nat) (v c fuel : Nat), v + l.length = G → l.length < fuel → (∀ a, a ∈ l → a < 6) → (∀ j a, l[j]? = some a → U 11 (v + j) = nI a) → fX7_findPerches_L30 kk fuel v1 v2 (nI c) (nI v) U = (if nI (c + zct I v l) ≤ v1 then kk v1 (v2 + 1) U else fX7_findPerches_L84 kk 1000 (nI (c + zct I v l)) v2 0 U) := by
  obtain ⟨c1, c2, c3, c4, c5, c6, c7, c8, c9, c10, c11, c12, c13, c14, c15, c16, c17, c18, c19, c20, c21, c22, -⟩ := hc
  have u5 : U 0 5 = nI G := by rw [hU 0 (by decide) (by decide)]; exact c2
  have r5 : U 5 = I 12 := by rw [hU 5 (by decide) (by decide)]; exact c17
  have r7 : U 7 = I 13 := by rw [hU 7 (by decide) (by decide)]; exact c19
  have r6 : U 6 = I (zaF 0) := by rw [hU 6 (by decide) (by decide)]; exact c18
  intro l
  induction l with
  | nil =>
    intro v c fuel hv hf _ _
    obtain ⟨fuel, rfl⟩ : ∃ x, fuel = x + 1 := ⟨fuel - 1, by omega⟩
    have hv' : v = G := hv
    have t : nI G ≤ nI v := nI_le (by omega) (by omega)
    rw [fX7_findPerches_L30, u5, if_pos t]
    rfl
  | cons a l ih =>
    intro v c fuel hv hf hl h11
    rw [List.length_cons] at hv hf
    obtain ⟨fuel, rfl⟩ : ∃ x, fuel = x + 1 := ⟨fuel - 1, by omega⟩
    have ha : a < 6 := hl a (List.mem_cons_self ..)
    have t : ¬ nI G ≤ nI v := nI_ge (by omega) (by omega)
    have ea : U 11 v = nI a := h11 0 a rfl
    have next : ∀ b, fX7_findPerches_L30 kk fuel v1 v2 (nI (c + b)) (nI (v + 1)) U = (if nI (c + b + zct I (v + 1) l) ≤ v1 then kk v1 (v2 + 1) U else fX7_findPerches_L84 kk 1000 (nI (c + b + zct I (v + 1) l)) v2 0 U) := fun b => ih (v + 1) (c + b) fuel (by omega) (by omega) (fun b hb => hl b (List.mem_cons_of_mem _ hb)) (fun j b hj => by
      have := h11 (j + 1) b hj
      rw [show v + 1 + j = v + (j + 1) by omega]
      exact this)
    rw [fX7_findPerches_L30, u5, if_neg t, if_pos (zq_in (show v < 6 by omega) (by decide)), zq_cl (show v < 2 ^ 31 by omega), ea, zM_bears ha (by rw [r5]; exact c22 a ha), zxB_s, r5, r7, r6, nI_1, zct, ← Nat.add_assoc]
    by_cases cc : zbe (I 12 a) (I 13 a) < I (zaF 0) v
    · rw [if_pos cc, if_pos cc, show (0 : Int32) = nI 0 from rfl, nI_add]
      exact next 0
    · rw [if_neg cc, if_neg cc, nI_1]
      exact next 1
theorem zpm_L {I J : zxI} {G W : Nat} (hc : zRc I J G W) : ∀ (L : List (List Nat)) (t fuel : Nat) (U : zxI) (s : Nat × Option (List Nat)), (∀ j, L[j]? = (zlx G G 0)[t + j]?) → t + L.length = (zlx G G 0).length → L.length < fuel → (∀ q, q ≠ 11 → q ≠ 12 → U q = J q) → zSX (U 12) s → ∃ U', fX7_findPerches_L5 fuel (zbM s.1) (nI t) U = some (zbM (L.foldl (zp1 I) s).1, U') ∧ (∀ q, q ≠ 11 → q ≠ 12 → U' q = J q) ∧ zSX (U' 12) (L.foldl (zp1 I) s) := by
  have h6 : G ≤ 6 := hc.2.2.2.1
  obtain ⟨l1, l2, l3⟩ := zoL h6
  intro L
  induction L with
  | nil =>
    intro t fuel U s hL ht hf hM hs
    obtain ⟨fuel, rfl⟩ : ∃ x, fuel = x + 1 := ⟨fuel - 1, by omega⟩
    have u5 : U 0 5 = nI G := by rw [hM 0 (by decide) (by decide)]; exact hc.2.1
    have t' : t = zfact G := by rw [← l1, ← ht]; rfl
    have tt : nI (zfact G) ≤ nI t := nI_le (by omega) (by omega)
    refine ⟨U, ?_, hM, hs⟩
    rw [fX7_findPerches_L5, u5, zM_ords h6, zxB_s, if_pos tt]
    rfl
  | cons l L ih =>
    intro t fuel U s hL ht hf hM hs
    rw [List.length_cons] at ht hf
    obtain ⟨fuel, rfl⟩ : ∃ x, fuel = x + 1 := ⟨fuel - 1, by omega⟩
    have u5 : U 0 5 = nI G := by rw [hM 0 (by decide) (by decide)]; exact hc.2.1
    have tt : ¬ nI (zfact G) ≤ nI t := nI_ge (by omega) (by omega)
    have hl : (zlx G G 0)[t]? = some l := (hL 0).symm
    have hlt := zlx_lt G 0 l (List.mem_of_getElem? hl)
    obtain ⟨U1, e1, e2, e3, e4⟩ := zM_ord h6 hl U
    have hM1 : ∀ q, q ≠ 11 → q ≠ 12 → U1 q = J q := fun q a b => (e3 q a).trans (hM q a b)
    have hrow1 : zrow (U1 11) l := fun j a hj => by
      obtain ⟨a', b1, b2⟩ := e4 j (by have := (List.getElem?_eq_some_iff.mp hj).1; omega)
      rw [hj] at b1
      rw [Option.some.inj b1]
      exact b2
    have hcnt : zct I 0 l ≤ 6 := by have := zct_le (I := I) l 0; omega
    rw [fX7_findPerches_L5, u5, zM_ords h6, zxB_s, if_neg tt, u5, e1, zxV_s, show (0 : Int32) = nI 0 from rfl, zpm_30 hc hM1 l 0 0 1000 (by omega) (by omega) (fun a ha => by have := hlt a ha; omega) (fun j a hj => by rw [Nat.zero_add]; exact hrow1 j a hj), Nat.zero_add, nI_1, List.foldl_cons]
    have hL' : ∀ j, L[j]? = (zlx G G 0)[t + 1 + j]? := fun j => by rw [show t + 1 + j = t + (j + 1) by omega]; exact hL (j + 1)
    by_cases q : s.1 ≤ zct I 0 l
    · have n1 : ¬ nI (zct I 0 l) ≤ zbM s.1 := fun z => (zbM_le s.1 hs.1 _ (by omega)).mp z q
      obtain ⟨U2, f1, f2, f3⟩ := zpm_84 (kk := fun a0 a1 I => fX7_findPerches_L5 fuel a0 a1 I) (v1 := nI (zct I 0 l)) (v2 := nI t) h6 G 0 1000 U1 (by rw [hM1 0 (by decide) (by decide)]; exact hc.2.1) (by omega) (by omega) (fun j hj => absurd hj (by omega))
      have es : zp1 I s l = (zct I 0 l + 1, some l) := by
        unfold zp1
        rw [if_pos q]
      have eb : zbM (zct I 0 l + 1) = nI (zct I 0 l) := by
        unfold zbM
        rw [if_neg (by omega), Nat.add_sub_cancel]
      rw [if_neg n1, show (0 : Int32) = nI 0 from rfl, f1, es, nI_1, ← eb]
      exact ih (t + 1) fuel U2 (zct I 0 l + 1, some l) hL' (by omega) (by omega) (fun q a b => (f2 q b).trans (hM1 q a b)) ⟨by show zct I 0 l + 1 < 8; omega, fun l' hl' => by
        have e : l = l' := Option.some.inj hl'
        subst e
        intro j a hj
        rw [f3 j (by have := (List.getElem?_eq_some_iff.mp hj).1; omega)]
        exact hrow1 j a hj⟩
    · have n1 : nI (zct I 0 l) ≤ zbM s.1 := (zbM_le s.1 hs.1 _ (by omega)).mpr q
      have es : zp1 I s l = s := by
        unfold zp1
        rw [if_neg q]
      rw [if_pos n1, es]
      exact ih (t + 1) fuel U1 s hL' (by omega) (by omega) hM1 (by rw [e3 12 (by decide)]; exact hs)
theorem zp1_some {I : zxI} {G : Nat} : ∀ (L : List (List Nat)) (s : Nat × Option (List Nat)), (∀ l, l ∈ L → l.length = G) → (0 < s.1 ∧ ∃ l, s.2 = some l ∧ l.length = G) → 0 < (L.foldl (zp1 I) s).1 ∧ ∃ l, (L.foldl (zp1 I) s).2 = some l ∧ l.length = G := by
  intro L
  induction L with
  | nil => intro s _ h; exact h
  | cons l L ih =>
    intro s hL h
    rw [List.foldl_cons]
    refine ih _ (fun l' hl' => hL l' (List.mem_cons_of_mem _ hl')) ?_
    unfold zp1
    by_cases q : s.1 ≤ zct I 0 l
    · rw [if_pos q]
      exact ⟨Nat.succ_pos _, l, rfl, hL l (List.mem_cons_self ..)⟩
    · rw [if_neg q]
      exact h
theorem zp1_all {I : zxI} {G : Nat} (h6 : G ≤ 6) : 0 < ((zlx G G 0).foldl (zp1 I) (0, none)).1 ∧ ∃ l, ((zlx G G 0).foldl (zp1 I) (0, none)).2 = some l ∧ l.length = G := by
  have hl := (zoL h6).1
  have hln := zlx_ln (n := G) G 0
  cases e : zlx G G 0 with
  | nil =>
    rw [e] at hl
    have : 0 < zfact G := by
      rcases (show G = 0 ∨ G = 1 ∨ G = 2 ∨ G = 3 ∨ G = 4 ∨ G = 5 ∨ G = 6 by omega) with e | e | e | e | e | e | e <;> subst e <;> decide
    rw [← hl] at this
    cases this
  | cons l L =>
    rw [e] at hln
    rw [List.foldl_cons]
    refine zp1_some L _ (fun l' hl' => hln l' (List.mem_cons_of_mem _ hl')) ?_
    unfold zp1
    rw [if_pos (Nat.zero_le _)]
    exact ⟨Nat.succ_pos _, l, rfl, hln l (List.mem_cons_self ..)⟩
theorem zi_pe {α : Type} {x : Int32} {A B : α} : (if x < -1 then A else if x < 6 then B else A) = if -1 ≤ x ∧ x ≤ 5 then B else A := by grind
theorem zpe_0 {x : Int32} (h : -1 ≤ x ∧ x ≤ 5) (n : ¬ x = -1) : 0 ≤ x ∧ x ≤ 5 := by grind
theorem zop_perches {I J : zxI} (h : zR I J) (x1 : Int32) : zP (fX6_perches x1 I) (fX7_perches x1 J) := by
  obtain ⟨⟨G, W, hc⟩, hf⟩ := id h
  have h6 : G ≤ 6 := hc.2.2.2.1
  unfold fX6_perches fX7_perches
  simp only [zX_hM hc.1 h6, hc.1, hc.2.1, zM_hM h6, zM_wi, zM_isG, zxB_s, zi_b, zi_b', zi_pe]
  refine zP_ite (fun q => ?_) (fun _ => zP_ok h)
  refine zP_ite (fun q2 => zP_ok h) (fun q2 => ?_)
  obtain ⟨U, f1, f2, f3⟩ := zpm_L hc (zlx G G 0) 0 1000 J (0, none) (fun j => by rw [Nat.zero_add]) (by omega) (by have := zoL h6; omega) (fun _ _ _ => rfl) ⟨by decide, fun l hl => by cases hl⟩
  obtain ⟨s0, l, sl, ll⟩ := zp1_all (I := I) h6
  have hM : zMf J U := ⟨fun q hq => f2 q (by omega) (by omega), fun k hk => by rw [f2 0 (by decide) (by decide)]⟩
  have eM : fX7_findPerches J = some (nI (((zlx G G 0).foldl (zp1 I) (0, none)).1 - 1), U) := by
    unfold fX7_findPerches
    have : zbM (((zlx G G 0).foldl (zp1 I) (0, none)).1) = nI (((zlx G G 0).foldl (zp1 I) (0, none)).1 - 1) := by
      unfold zbM
      rw [if_neg (by omega)]
    rw [← this]
    exact f1
  have u5 : U 0 5 = nI G := by rw [f2 0 (by decide) (by decide)]; exact hc.2.1
  rw [eM, zxB_s, u5]
  obtain ⟨T, g1, g2, g3, g4⟩ := zse_N (I := I) hc.1 h6 G 0 0 0 20 [] (zxU I 39 2 (-1)) (0, none) (by omega) (by omega) (by decide) rfl rfl (fun q a b c => zxU_q a) (fun j a hj => by cases hj) zxU_s ⟨by decide, fun l hl => by cases hl⟩
  have em : (zlx G G 0).map (fun l => [] ++ l) = zlx G G 0 := by
    have : (fun l : List Nat => [] ++ l) = id := by
      funext l
      rfl
    rw [this, List.map_id]
  rw [em] at g3 g4
  have hX : zXf I T := fun q hq => (g2.1 q (by omega) (by omega) (by omega)).trans (zxU_q (by omega))
  rw [show nI 0 = (0 : Int32) from rfl] at g1
  have hGp : 0 < G := by omega
  by_cases e1 : x1 = -1
  · subst e1
    rw [if_pos (show (-1 : Int32) < nI G by
      have : ∀ G, G < 7 → (-1 : Int32) < nI G := by decide
      exact this G (by omega)), g1, zxV_s, if_pos rfl, if_pos rfl, g3]
    have : zbX (((zlx G G 0).foldl (zp1 I) (0, none)).1) = nI (((zlx G G 0).foldl (zp1 I) (0, none)).1 - 1) := by
      unfold zbX
      obtain ⟨y, hy⟩ : ∃ y, ((zlx G G 0).foldl (zp1 I) (0, none)).1 = y + 1 := ⟨((zlx G G 0).foldl (zp1 I) (0, none)).1 - 1, by omega⟩
      rw [hy, nI_pred, Nat.add_sub_cancel]
    rw [this]
    exact zP_ok (zR_f h hX hM)
  · obtain ⟨y, hy, rfl⟩ := zq_ofL (n := 5) rfl (zpe_0 q e1)
    rw [if_neg e1]
    by_cases q3 : nI y < nI G
    · have hyG : y < G := (nI_ltI (by omega) (by omega)).mp q3
      rw [if_pos q3, if_pos (And.intro (nI_pos' (show y < 2 ^ 31 by omega)) q3), g1, zxV_s, if_neg e1, if_pos (zq_in (show y < 6 by omega) (by decide)), if_pos (zq_in (show y < 6 by omega) (by decide)), zq_cl (show y < 2 ^ 31 by omega)]
      have hlt : y < l.length := by omega
      have ea : l[y]? = some l[y] := List.getElem?_eq_getElem hlt
      rw [g4.2 l sl y _ ea, f3.2 l sl y _ ea]
      exact zP_ok (zR_f h hX hM)
    · rw [if_neg q3, if_neg (fun z => q3 z.2)]
      exact zP_ok (zR_f h zXf_r hM)
