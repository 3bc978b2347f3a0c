/-! copies -/
theorem zc1 {α : Type} {a b c : Prop} [Decidable a] [Decidable b] [Decidable c] {F R : α} (h : ¬ (¬ a ∧ b ∧ c)) : (if a then F else if b then (if c then R else F) else F) = F := by grind
theorem zc2 {α : Type} {a b c d e f g : Prop} [Decidable a] [Decidable b] [Decidable c] [Decidable d] [Decidable e] [Decidable f] [Decidable g] {F R : α} (h : ¬ (¬ a ∧ ¬ b ∧ ¬ c ∧ ¬ d ∧ ¬ e ∧ ¬ f ∧ g)) : (if a then F else if b then F else if c then F else if d then F else if e then F else if f then F else if g then R else F) = F := by grind
theorem zvb_N {r : Nat → Int32} {A B N : Nat} : zvb r A B N N = va_cpy r r A B N := by
  funext q
  unfold zvb va_cpy
  rw [Nat.sub_self, Nat.add_zero]
theorem zvb_0 {r : Nat → Int32} {A B N : Nat} : zvb r A B N 0 = r := by
  funext q
  unfold zvb
  rw [if_neg (by omega)]
theorem zcpy_0 {r s : Nat → Int32} {A B : Nat} : va_cpy r s A B 0 = s := by
  funext q
  unfold va_cpy
  rw [if_neg (by omega)]
theorem zM_cp {k l i j N : Nat} {J : zxI} (hk : k < 4) (hl : l < 4) (hi : i + N ≤ 60) (hj : j + N ≤ 60) : (if nI j ≤ nI i then fX7_copy_L166 1000 (nI k) (nI i) (nI l) (nI j) (nI N) 0 0 J else fX7_copy_L166 1000 (nI k) (nI i) (nI l) (nI j) (nI N) 1 0 J) = some (nI N, zSR J 3 (va_cpy (J 3) (J 3) (60 * k + i) (60 * l + j) N)) := by
  have hkl : k < l ∨ k = l ∨ l < k := by omega
  by_cases e : j ≤ i
  · rw [if_pos (nI_le e (by omega))]
    have := zM_cpF (J := J) (k := k) (l := l) (i := i) (j := j) (N := N) (by omega) (by omega) (fun c hc => by rcases hkl with z | z | z <;> omega) N 0 1000 (by omega) (by omega)
    rw [zcpy_0, zSR_id] at this
    exact this
  · rw [if_neg (nI_ge (by omega) (by omega))]
    have := zM_cpB (J := J) (k := k) (l := l) (i := i) (j := j) (N := N) (by omega) (by omega) (fun c hc => by rcases hkl with z | z | z <;> omega) N 0 1000 (by omega) (by omega)
    rw [zvb_0, zSR_id, zvb_N] at this
    exact this
theorem zR_copy {I J : zxI} (h : zR I J) {k l i j m : Nat} (hk : k < 4) (hl : l < 4) (hi : i + m ≤ 60) (hj : j + m ≤ 60) (hK : ∀ q, q < 60 → J 3 (60 * k + q) = I (zsC k) q) : zR (zSR I (zsC l) (va_cpy (I (zsC k)) (I (zsC l)) i j m)) (zSR J 3 (va_cpy (J 3) (J 3) (60 * k + i) (60 * l + j) m)) := by
  obtain ⟨⟨G, W, hc⟩, hf⟩ := h
  refine ⟨⟨G, W, zRc_sh hc (fun q hq => zSR_n (zs_rg hl hq).2) (fun q hq => zSR_n (by omega))⟩, zRf_one (k := l) hf ?_ (fun l' hl' e => ⟨zSR_n (zs_ne e).2.2.1, zSR_n (zs_ne e).2.1⟩) (fun l' hl' e => ⟨by rw [zSR_n (by decide)], by rw [zSR_n (by decide)], fun q hq => ?_⟩)⟩
  · rcases hf l hl with ⟨z1, z2⟩ | ⟨z1, z2, z3, n, z4, z5, z6, z7⟩
    · exact Or.inl ⟨by rw [zSR_n zs_ne2.1]; exact z1, by rw [zSR_n (by decide)]; exact z2⟩
    · refine Or.inr ⟨by rw [zSR_n zs_ne2.1]; exact z1, by rw [zSR_n zs_ne2.1, zSR_n (by decide)]; exact z2, by rw [zSR_n zs_ne2.1]; exact z3, n, z4, by rw [zSR_n zs_ne2.1]; exact z5, by rw [zSR_n (by decide)]; exact z6, fun q hq => ?_⟩
      rw [zSR_s, zSR_s]
      unfold va_cpy
      by_cases e : j ≤ q ∧ q < j + m
      · rw [if_pos e, if_pos (by omega), ← hK (i + (q - j)) (by omega)]
        congr 1
        omega
      · rw [if_neg e, if_neg (by omega)]
        exact z7 q hq
  · rw [zSR_s]
    unfold va_cpy
    rw [if_neg (by have : l' < l ∨ l < l' := by omega
                   rcases this with z | z <;> omega)]
theorem zop_copy {I J : zxI} (h : zR I J) (x1 x2 x3 x4 x5 : Int32) : zP (fX6_copy x1 x2 x3 x4 x5 I) (fX7_copy x1 x2 x3 x4 x5 J) := by
  have h := zR_fault h 0
  unfold fX6_copy fX7_copy fX6_faulted fX7_fails
  generalize zxU I 0 10 0 = I at h ⊢
  generalize zxU J 0 0 0 = J at h ⊢
  simp only [zX_isS, zM_isS, zX_hc, zxB_s, zi_b]
  refine zP_ite (fun q => ?_) (fun _ => zP_ok h)
  refine zP_ite (fun q3 => ?_) (fun _ => zP_ok h)
  obtain ⟨k, hk, rfl⟩ := zq_ofL (n := 3) rfl q
  obtain ⟨l, hl, rfl⟩ := zq_ofL (n := 3) rfl q3
  have hk4 : k < 4 := by omega
  have hl4 : l < 4 := by omega
  simp only [zq_in hk4 (show 4 < 2 ^ 31 by decide), zq_in hl4 (show 4 < 2 ^ 31 by decide), if_true, zq_cl (show k < 2 ^ 31 by omega), zq_cl (show l < 2 ^ 31 by omega)]
  rcases h.2 k hk4 with ⟨z1, z2⟩ | ⟨z1, z2, ⟨t, ht, et⟩, n, z4, z5, z6, z7⟩
  · rw [if_pos z1, if_pos z2]
    exact zP_ok (zR_fault h 1)
  · have n1 : ¬ I (zsO k) 0 = 0 := by rw [z1]; decide
    have n2 : ¬ J 1 k = -9 := by rw [z2, et]; exact zq_neg9 ht
    rw [if_neg n1, if_neg n2]
    rcases h.2 l hl4 with ⟨y1, y2⟩ | ⟨y1, y2, ⟨t', ht', et'⟩, n', y4, y5, y6, y7⟩
    · rw [if_pos y1, if_pos y2]
      exact zP_ok (zR_fault h 1)
    · have n3 : ¬ I (zsO l) 0 = 0 := by rw [y1]; decide
      have n4 : ¬ J 1 l = -9 := by rw [y2, et']; exact zq_neg9 ht'
      rw [if_neg n3, if_neg n4, z2, y2]
      refine zP_ite (fun _ => ?_) (fun _ => zP_ok (zR_fault h 2))
      rw [z5, z6, y5, y6]
      by_cases c : ¬ x5 < 0 ∧ (0 ≤ x2 ∧ x2 ≤ nI n ∧ x5 ≤ nI n - x2) ∧ (0 ≤ x4 ∧ x4 ≤ nI n' ∧ x5 ≤ nI n' - x4)
      · obtain ⟨c5, ⟨c2, c2', c2''⟩, c4, c4', c4''⟩ := c
        obtain ⟨i, hi, rfl⟩ := zq_ofL (x := x2) (M := nI n) (n := n) (nI_toInt (by omega)) ⟨c2, c2'⟩
        obtain ⟨j, hj, rfl⟩ := zq_ofL (x := x4) (M := nI n') (n := n') (nI_toInt (by omega)) ⟨c4, c4'⟩
        rw [pk_sub hi] at c2''
        rw [pk_sub hj] at c4''
        obtain ⟨m, hm, rfl⟩ := zq_ofL (x := x5) (M := nI (n - i)) (n := n - i) (nI_toInt (by omega)) ⟨Int32.not_lt.mp c5, c2''⟩
        have hm' : m ≤ n' - j := (nI_leI (by omega) (by omega)).mp c4''
        have c2n : ¬ nI i < 0 := nI_pos (by omega)
        have c4n : ¬ nI j < 0 := nI_pos (by omega)
        have c2l : ¬ nI n < nI i := nI_nlt hi (by omega)
        have c4l : ¬ nI n' < nI j := nI_nlt hj (by omega)
        have c5l : ¬ nI (n - i) < nI m := nI_nlt hm (by omega)
        rw [pk_sub hi, pk_sub hj, if_neg c5, if_pos (And.intro c2 (And.intro c2' c2'')), if_pos (And.intro c4 (And.intro c4' c4'')), if_neg c2n, if_neg c4n, if_neg c5, if_neg c2l, if_neg c4l, if_neg c5l, if_pos c4'']
        simp only [zq_cl (show i < 2 ^ 31 by omega), zq_cl (show j < 2 ^ 31 by omega), zq_cl (show m < 2 ^ 31 by omega)]
        rw [if_pos (And.intro c2n (And.intro c4n (And.intro c5 (And.intro (show i + m ≤ 60 by omega) (show j + m ≤ 60 by omega))))), zM_cp hk4 hl4 (show i + m ≤ 60 by omega) (show j + m ≤ 60 by omega), zSR_C]
        exact zP_ok (zR_copy h hk4 hl4 (by omega) (by omega) z7)
      · rw [zc1 c, zc2 (fun z => c ⟨z.2.2.1, ⟨Int32.not_lt.mp z.1, Int32.not_lt.mp z.2.2.2.1, Int32.not_lt.mp z.2.2.2.2.2.1⟩, Int32.not_lt.mp z.2.1, Int32.not_lt.mp z.2.2.2.2.1, z.2.2.2.2.2.2⟩)]
        exact zP_ok (zR_fault h 3)
