/-! sheets -/
theorem zRc_sh {I J I' J' : zxI} {G W : Nat} (h : zRc I J G W) (hX : ∀ q, q = 0 ∨ 10 ≤ q → I' q = I q) (hM : ∀ q, q = 0 ∨ 4 ≤ q → J' q = J q) : zRc I' J' G W := by
  have m0 := hM 0 (Or.inl rfl)
  exact zRc_fr h (hX 0 (by omega)) (hX 10 (by omega)) (hX 11 (by omega)) (hX 12 (by omega)) (hX 13 (by omega)) (hX _ (by unfold zaO; omega)) (hX _ (by unfold zaF; omega)) (hX 31 (by omega)) (hX 32 (by omega)) (hX 33 (by omega)) (hX 34 (by omega)) (by rw [m0]) (by rw [m0]) (by rw [m0]) (by rw [m0]) (by rw [m0]) (by rw [m0]) (by rw [m0]) (by rw [m0]) (hM 4 (by omega)) (hM 5 (by omega)) (hM 6 (by omega)) (hM 7 (by omega)) (hM 13 (by omega)) (hM 14 (by omega)) (hM 15 (by omega))
theorem zRf_one {I J I' J' : zxI} {k : Nat} (h : zRf I J) (hs : zSh I' J' k) (hX : ∀ l, l < 4 → l ≠ k → I' (zsO l) = I (zsO l) ∧ I' (zsC l) = I (zsC l)) (hM : ∀ l, l < 4 → l ≠ k → J' 1 l = J 1 l ∧ J' 2 l = J 2 l ∧ ∀ i, i < 60 → J' 3 (60 * l + i) = J 3 (60 * l + i)) : zRf I' J' := by
  intro l hl
  by_cases e : l = k
  · subst e; exact hs
  · obtain ⟨x1, x2⟩ := hX l hl e
    obtain ⟨m1, m2, m3⟩ := hM l hl e
    have := h l hl
    unfold zSh at *
    rw [x1, x2, m1, m2]
    rcases this with z | ⟨z1, z2, z3, n, z4, z5, z6, z7⟩
    · exact Or.inl z
    · exact Or.inr ⟨z1, z2, z3, n, z4, z5, z6, fun i hi => by rw [m3 i hi]; exact z7 i hi⟩
theorem zs_ne {k l : Nat} (h : l ≠ k) : zsO l ≠ zsO k ∧ zsC l ≠ zsC k ∧ zsO l ≠ zsC k ∧ zsC l ≠ zsO k := by unfold zsO zsC; omega
theorem zs_ne2 {k : Nat} : zsO k ≠ zsC k ∧ zsC k ≠ zsO k := by unfold zsO zsC; omega
theorem zs_rg {k q : Nat} (hk : k < 4) (hq : q = 0 ∨ 10 ≤ q) : q ≠ zsO k ∧ q ≠ zsC k := by unfold zsO zsC; omega
theorem zq_neg9 {t : Nat} (ht : t < 3) : ¬ nI t = (-9 : Int32) := by
  rcases (show t = 0 ∨ t = 1 ∨ t = 2 by omega) with rfl | rfl | rfl <;> decide
theorem zfc {I J : zxI} (h : zRf I J) {k : Nat} (hk : k < 4) (x2 x3 x4 : Int32) : ∃ f : Nat, f ≤ 4 ∧ fX5_faultOfCells k x2 x3 x4 I = some (nI f, I) ∧ fX7_against (nI k) x2 x3 x4 J = some (nI f, J) ∧ (f = 0 → I (zsO k) 0 = 1 ∧ ∃ n i m, n ≤ 60 ∧ x3 = nI i ∧ x4 = nI m ∧ i + m ≤ n ∧ I (zsO k) 3 = nI n ∧ ∀ q, q < 60 → J 3 (60 * k + q) = I (zsC k) q) := by
  unfold fX5_faultOfCells fX7_against fX5_hasCells
  rw [if_pos (zq_in hk (by decide)), zq_cl (by omega)]
  rcases h k hk with ⟨z1, z2⟩ | ⟨z1, z2, ⟨t, ht, et⟩, n, z4, z5, z6, z7⟩
  · rw [z1, z2]
    exact ⟨1, by omega, rfl, rfl, fun e => by cases e⟩
  · rw [z1, z2, et, z5, z6, if_neg (by decide : ¬ (1 : Int32) = 0), if_neg (zq_neg9 ht), if_neg (zq_neg9 ht)]
    by_cases e2 : nI t = x2
    · rw [if_pos e2, if_pos e2]
      by_cases e4 : 0 ≤ x4
      · rw [if_pos e4, if_pos e4]
        by_cases e3 : x3 < 0
        · rw [if_pos e3, if_pos e3]
          exact ⟨3, by omega, rfl, rfl, fun e => by cases e⟩
        · rw [if_neg e3, if_neg e3]
          by_cases e5 : nI n < x3
          · rw [if_pos e5, if_pos e5]
            exact ⟨3, by omega, rfl, rfl, fun e => by cases e⟩
          · rw [if_neg e5, if_neg e5]
            obtain ⟨i, hi, rfl⟩ := zq_ofL (x := x3) (M := nI n) (n := n) (nI_toInt (by omega)) ⟨Int32.not_lt.mp e3, Int32.not_lt.mp e5⟩
            rw [pk_sub hi]
            by_cases e6 : nI (n - i) < x4
            · rw [if_pos e6, if_neg (Int32.not_le.mpr e6)]
              exact ⟨3, by omega, rfl, rfl, fun e => by cases e⟩
            · rw [if_neg e6, if_pos (Int32.not_lt.mp e6)]
              obtain ⟨m, hm, rfl⟩ := zq_ofL (x := x4) (M := nI (n - i)) (n := n - i) (nI_toInt (by omega)) ⟨e4, Int32.not_lt.mp e6⟩
              exact ⟨0, by omega, rfl, rfl, fun _ => ⟨rfl, n, i, m, z4, rfl, rfl, by omega, rfl, z7⟩⟩
      · rw [if_neg e4, if_neg e4]
        exact ⟨4, by omega, rfl, rfl, fun e => by cases e⟩
    · rw [if_neg e2, if_neg e2]
      exact ⟨2, by omega, rfl, rfl, fun e => by cases e⟩
theorem zX_beginL {k : Nat} (hk : k < 4) : ∀ (m i n : Nat) (I : zxI), i + m = 60 → m < n → fX5_begin_L17 k n (nI i) I = some (zSR I (zsC k) (fun j => if i ≤ j ∧ j < 60 then 0 else I (zsC k) j)) := by
  intro m
  induction m with
  | zero =>
    intro i n I hi hn
    obtain ⟨n, rfl⟩ : ∃ x, n = x + 1 := ⟨n - 1, by omega⟩
    rw [fX5_begin_L17, if_pos (show (60 : Int32) ≤ nI i from nI_le (a := 60) (by omega) (by omega))]
    have e : (fun j => if i ≤ j ∧ j < 60 then (0 : Int32) else I (zsC k) j) = I (zsC k) := by
      funext j
      rw [if_neg (by omega)]
    rw [e, zSR_id]
  | succ m ih =>
    intro i n I hi hn
    obtain ⟨n, rfl⟩ : ∃ x, n = x + 1 := ⟨n - 1, by omega⟩
    rw [fX5_begin_L17, if_neg (show ¬ (60 : Int32) ≤ nI i from nI_ge (b := 60) (by omega) (by decide)), if_pos (zq_in (show i < 60 by omega) (by decide)), zq_cl (by omega), nI_1, ih (i + 1) n _ (by omega) (by omega), zSR_U, zSR_SR, zSR_s]
    congr 2
    funext j
    by_cases e : j = i
    · subst e
      rw [if_neg (by omega), if_pos (by omega), upd_s]
    · rw [upd_n e]
      by_cases e2 : i + 1 ≤ j ∧ j < 60
      · rw [if_pos e2, if_pos (by omega)]
      · rw [if_neg e2, if_neg (by omega)]
theorem zM_beginL {k : Nat} (hk : k < 4) : ∀ (m i n : Nat) (J : zxI), i + m = 60 → m < n → fX7_sheet_L57 n (nI k) (nI i) J = some (1, zSR J 3 (fun j => if 60 * k + i ≤ j ∧ j < 60 * k + 60 then 0 else J 3 j)) := by
  intro m
  induction m with
  | zero =>
    intro i n J hi hn
    obtain ⟨n, rfl⟩ : ∃ x, n = x + 1 := ⟨n - 1, by omega⟩
    rw [fX7_sheet_L57, if_pos (show (60 : Int32) ≤ nI i from nI_le (a := 60) (by omega) (by omega))]
    have e : (fun j => if 60 * k + i ≤ j ∧ j < 60 * k + 60 then (0 : Int32) else J 3 j) = J 3 := by
      funext j
      rw [if_neg (by omega)]
    rw [e, zSR_id]
  | succ m ih =>
    intro i n J hi hn
    obtain ⟨n, rfl⟩ : ∃ x, n = x + 1 := ⟨n - 1, by omega⟩
    have e1 : (60 : Int32) * nI k + nI i = nI (60 * k + i) := by rw [show (60 : Int32) = nI 60 from rfl, pk_mul, nI_add]
    rw [fX7_sheet_L57, if_neg (show ¬ (60 : Int32) ≤ nI i from nI_ge (b := 60) (by omega) (by decide)), e1, if_pos (zq_in (show 60 * k + i < 240 by omega) (by decide)), zq_cl (by omega), nI_1, ih (i + 1) n _ (by omega) (by omega), zSR_U, zSR_SR, zSR_s]
    congr 3
    funext j
    by_cases e : j = 60 * k + i
    · subst e
      rw [if_neg (by omega), if_pos (by omega), upd_s]
    · rw [upd_n e]
      by_cases e2 : 60 * k + (i + 1) ≤ j ∧ j < 60 * k + 60
      · rw [if_pos e2, if_pos (by omega)]
      · rw [if_neg e2, if_neg (by omega)]
theorem zop_sheet {I J : zxI} (h : zR I J) (x1 x2 x3 : Int32) : zP (fX6_sheet x1 x2 x3 I) (fX7_sheet x1 x2 x3 J) := by
  have h := zR_fault h 0
  unfold fX6_sheet fX7_sheet fX6_faulted fX7_fails fX5_begin
  generalize zxU I 0 10 0 = I at h ⊢
  generalize zxU J 0 0 0 = J at h ⊢
  simp only [zX_isS, zM_isS, zX_isL, zM_isL, zxB_s, zi_b]
  refine zP_ite (fun q => ?_) (fun _ => zP_ok h)
  refine zP_ite (fun q2 => ?_) (fun _ => zP_ok h)
  refine zP_ite (fun q3 => ?_) (fun _ => zP_ok h)
  refine zP_ite (fun q4 => ?_) (fun _ => zP_ok (zR_fault h 4))
  obtain ⟨k, hk, rfl⟩ := zq_ofL (n := 3) rfl q
  obtain ⟨t, ht, rfl⟩ := zq_ofL (n := 2) rfl q2
  obtain ⟨n, hn, rfl⟩ := zq_ofL (n := 60) rfl ⟨q4, q3⟩
  have hk4 : k < 4 := by omega
  simp only [zq_in hk4 (show 4 < 2 ^ 31 by decide), if_true, zq_cl (show k < 2 ^ 31 by omega)]
  rw [show (0 : Int32) = nI 0 from rfl, zX_beginL hk4 60 0 1000 _ (by omega) (by omega), zM_beginL hk4 60 0 1000 _ (by omega) (by omega), zxV_s]
  obtain ⟨⟨G, W, hc⟩, hf⟩ := h
  refine zP_ok ⟨⟨G, W, zRc_sh hc (fun q hq => ?_) (fun q hq => ?_)⟩, zRf_one (k := k) hf ?_ (fun l hl e => ?_) (fun l hl e => ?_)⟩
  · obtain ⟨g1, g2⟩ := zs_rg hk4 hq
    rw [zSR_n g2, zxU_q g1, zxU_q g1, zxU_q g1]
  · rw [zSR_n (by omega), zxU_q (by omega), zxU_q (by omega)]
  · unfold zSh
    refine Or.inr ⟨?_, ?_, ⟨t, by omega, ?_⟩, n, by omega, ?_, ?_, fun i hi => ?_⟩
    · rw [zSR_n zs_ne2.1, zxU_k (by decide), zxU_k (by decide), zxU_s]
    · rw [zSR_n zs_ne2.1, zxU_k (by decide), zxU_s, zSR_n (by decide), zxU_q (by decide), zxU_s]
    · rw [zSR_n zs_ne2.1, zxU_k (by decide), zxU_s]
    · rw [zSR_n zs_ne2.1, zxU_s]
    · rw [zSR_n (by decide), zxU_s]
    · rw [zSR_s, zSR_s, if_pos (by omega), if_pos (by omega)]
  · obtain ⟨g1, g2, g3, g4⟩ := zs_ne e
    rw [zSR_n g3, zxU_q g1, zxU_q g1, zxU_q g1, zSR_n g2, zxU_q g4, zxU_q g4, zxU_q g4]
    exact ⟨rfl, rfl⟩
  · refine ⟨?_, ?_, fun i hi => ?_⟩
    · rw [zSR_n (by decide), zxU_q (by decide), zxU_k e]
    · rw [zSR_n (by decide), zxU_k e, zxU_q (by decide)]
    · rw [zSR_s, if_neg (by omega), zxU_q (by decide), zxU_q (by decide)]
theorem zop_lose {I J : zxI} (h : zR I J) (x1 : Int32) : zP (fX6_lose x1 I) (fX7_lose x1 J) := by
  unfold fX6_lose fX7_lose
  simp only [zX_isS, zM_isS, zxB_s, zi_b]
  refine zP_ite (fun q => ?_) (fun _ => zP_ok h)
  obtain ⟨k, hk, rfl⟩ := zq_ofL (n := 3) rfl q
  have hk4 : k < 4 := by omega
  simp only [zq_in hk4 (show 4 < 2 ^ 31 by decide), if_true, zq_cl (show k < 2 ^ 31 by omega)]
  obtain ⟨⟨G, W, hc⟩, hf⟩ := h
  have key : zR (zxU I (zsO k) 0 0) (zxU J 1 k (-9)) := by
    refine ⟨⟨G, W, zRc_sh hc (fun q hq => zxU_q (zs_rg hk4 hq).1) (fun q hq => zxU_q (by omega))⟩, zRf_one (k := k) hf (Or.inl ⟨zxU_s, zxU_s⟩) (fun l hl e => ⟨zxU_q (zs_ne e).1, zxU_q (zs_ne e).2.2.2⟩) (fun l hl e => ⟨zxU_k e, by rw [zxU_q (by decide)], fun i hi => by rw [zxU_q (by decide)]⟩)⟩
  rcases hf k hk4 with ⟨z1, z2⟩ | ⟨z1, z2, ⟨t, ht, et⟩, -⟩
  · rw [if_pos z1, if_pos z2]
    exact zP_ok key
  · rw [if_neg (by rw [z1]; decide), if_neg (by rw [z2, et]; exact zq_neg9 ht)]
    exact zP_ok key
