/-! found: what was said, and where -/
theorem zX_ab {I J T0 U0 : zxI} {G W g w : Nat} (hc : zRc I J G W) (hX : zFX I T0) (hM : zFM J U0) (h9 : U0 0 9 = J 0 9) (hg : g < G) (hw : w < W) : ∃ T U1 U s d, fX6_airBehind (nI g) (nI w) T0 = some T ∧ fX7_keep U0 = some U1 ∧ fX7_breathe (nI g) (nI w) U1 = some (s, U) ∧ U1 0 6 = nI W ∧ zTT I J T U G d ∧ U 0 9 = J 0 9 := by
  obtain ⟨T, U, d, e1, e2, hT, hk0⟩ := zT_0' hc hX hM
  have h9' : U 0 9 = J 0 9 := by rw [hk0 9 (by decide)]; exact h9
  obtain ⟨T', U', s, f1, f2, hs, hz, hT', hk'⟩ := zT_br (dr := I 10 5) hc hT (by rw [h9']; exact zc14 hc) hg hw
  refine ⟨T', U, U', nI s, d ||| s, ?_, e2, f2, ?_, hT', by rw [hk' 9 (by decide)]; exact h9'⟩
  · unfold fX6_airBehind
    rw [e1, zxV_s, show T 10 5 = I 10 5 by rw [hT.x 10 (by omega) (by omega)], f1, zxB_s]
  · rw [hk0 6 (by decide), hM.2 6 (by omega)]
    exact hc.2.2.2.2.2.1
theorem zT_nx {I J T U : zxI} {G W d : Nat} (hc : zRc I J G W) (hT : zTT I J T U G d) (h9 : U 0 9 = J 0 9) : ∃ U', fX7_putBack U = some U' ∧ zFX I T ∧ zFM J U' ∧ U' 0 9 = J 0 9 := by
  obtain ⟨U', e1, e2, e3, e4⟩ := zT_1 hc hT
  exact ⟨U', e1, hT.x, ⟨e2, e3⟩, by rw [e4 9 (by decide)]; exact h9⟩
theorem zR_nx {I J T U : zxI} (h : zR I J) (hX : zFX I T) (hM : zFM J U) (h9 : U 0 9 = J 0 9) : zR T U :=
  zR_f h (fun q hq => hX q (by omega) (by omega)) ⟨fun q hq => hM.1 q (by omega) (by omega), fun k hk => by
    by_cases e : k = 9
    · subst e
      exact h9
    · exact hM.2 k (by omega)⟩
theorem zfd_0 {U : zxI} {G : Nat} {v1 : Int32} (h5 : U 0 5 = nI G) (h6 : G ≤ 6) : ∀ (m p f : Nat), p + m = G → m < f → fX7_isFound_L17 f v1 0 (nI p) U = zxV (fX7_putBack U) (fun I_4 => some (0, I_4)) := by
  intro m
  induction m with
  | zero =>
    intro p f hp hf
    obtain ⟨f, rfl⟩ : ∃ x, f = x + 1 := ⟨f - 1, by omega⟩
    have t : nI G ≤ nI p := nI_le (by omega) (by omega)
    rw [fX7_isFound_L17, h5, if_pos t]
    rfl
  | succ m ih =>
    intro p f hp hf
    obtain ⟨f, rfl⟩ : ∃ x, f = x + 1 := ⟨f - 1, by omega⟩
    have t : ¬ nI G ≤ nI p := nI_ge (by omega) (by omega)
    have t0 : (0 : Int32) = 0 := rfl
    rw [fX7_isFound_L17, h5, if_neg t, if_pos t0, nI_1]
    exact ih (p + 1) f (by omega) (by omega)
theorem zfd_1 {T U : zxI} {G k i : Nat} (h10 : T 10 0 = nI G) (h5 : U 0 5 = nI G) (h6 : G ≤ 6) (hi : i + G ≤ 60) (hk : k < 4) (he : zE6 (T 17) (U 6)) (hC : ∀ q, q < 60 → U 3 (60 * k + q) = T (zsC k) q) : ∀ (m p f f' : Nat), p + m = G → m < f → m < f' → ∃ b : Int32, fX6_isAsTold_L3 k 1 f (nI i) (nI p) T = some (b, T) ∧ fX7_isFound_L17 f' (nI (60 * k + i)) 1 (nI p) U = zxV (fX7_putBack U) (fun I_4 => some (b, I_4)) := by
  intro m
  induction m with
  | zero =>
    intro p f f' hp hf hf'
    obtain ⟨f, rfl⟩ : ∃ x, f = x + 1 := ⟨f - 1, by omega⟩
    obtain ⟨f', rfl⟩ : ∃ x, f' = x + 1 := ⟨f' - 1, by omega⟩
    have t : nI G ≤ nI p := nI_le (by omega) (by omega)
    refine ⟨1, ?_, ?_⟩
    · rw [fX6_isAsTold_L3, h10, if_pos t]
    · rw [fX7_isFound_L17, h5, if_pos t]
      rfl
  | succ m ih =>
    intro p f f' hp hf hf'
    obtain ⟨f, rfl⟩ : ∃ x, f = x + 1 := ⟨f - 1, by omega⟩
    obtain ⟨f', rfl⟩ : ∃ x, f' = x + 1 := ⟨f' - 1, by omega⟩
    have t : ¬ nI G ≤ nI p := nI_ge (by omega) (by omega)
    have t0 : ¬ (1 : Int32) = 0 := by decide
    have e1 : U 3 (60 * k + i + p) = T (zsC k) (i + p) := by rw [← hC (i + p) (by omega), show 60 * k + (i + p) = 60 * k + i + p by omega]
    rw [fX6_isAsTold_L3, fX7_isFound_L17, h10, h5, if_neg t, if_neg t, if_neg t0, nI_add, nI_add, if_pos (zq_in (show i + p < 60 by omega) (by decide)), if_pos (zq_in (show p < 6 by omega) (by decide)), if_pos (zq_in (show p < 6 by omega) (by decide)), if_pos (zq_in (show 60 * k + i + p < 240 by omega) (by decide)), zq_cl (show i + p < 2 ^ 31 by omega), zq_cl (show p < 2 ^ 31 by omega), zq_cl (show 60 * k + i + p < 2 ^ 31 by omega), e1, show T (zaF 1) = T 17 from rfl, he p (by omega), nI_1]
    by_cases q : T (zsC k) (i + p) = U 6 p
    · rw [if_pos q, if_pos q.symm]
      exact ih (p + 1) f f' (by omega) (by omega) (by omega)
    · rw [if_neg q, if_neg (fun z => q z.symm)]
      exact ⟨0, rfl, zfd_0 h5 h6 m (p + 1) f' (by omega) (by omega)⟩
theorem zq_dv {W g w : Nat} (hw : w < W) : (W * g + w) / W = g ∧ (W * g + w) % W = w := by
  constructor
  · rw [Nat.mul_add_div (by omega), Nat.div_eq_of_lt hw, Nat.add_zero]
  · rw [Nat.mul_add_mod, Nat.mod_eq_of_lt hw]
theorem zq_WG {W G g w : Nat} (hw : w < W) (hg : g < G) (h6 : G ≤ 6) (h4 : W ≤ 4) : W * g + w + 1 ≤ W * G ∧ W * G ≤ 24 := by
  constructor
  · have := Nat.mul_le_mul_left W (show g + 1 ≤ G from hg)
    rw [Nat.mul_succ] at this
    omega
  · exact Nat.mul_le_mul h4 h6
/-- one word in one gallery, both sides -/
theorem zfd_S {I J T0 U0 : zxI} {G W g w k i : Nat} (hc : zRc I J G W) (hk : k < 4) (hi : i + G ≤ 60) (hC : ∀ q, q < 60 → J 3 (60 * k + q) = I (zsC k) q) (hX : zFX I T0) (hM : zFM J U0) (h9 : U0 0 9 = J 0 9) (hg : g < G) (hw : w < W) : ∃ T T' U' b, fX6_airBehind (nI g) (nI w) T0 = some T ∧ fX6_isAsTold k 1 (nI i) T = some (b, T') ∧ fX7_isFound (nI (60 * k + i)) (nI g) (nI w) U0 = some (b, U') ∧ zFX I T' ∧ zFM J U' ∧ U' 0 9 = J 0 9 := by
  obtain ⟨T, U1, U, s, d, e1, e2, e3, e4, hT, h9'⟩ := zX_ab hc hX hM h9 hg hw
  obtain ⟨U', y1, y2, y3, y4⟩ := zT_nx hc hT h9'
  have h6 : G ≤ 6 := hc.2.2.2.1
  obtain ⟨b, z1, z2⟩ := zfd_1 (T := T) (U := U) (G := G) (k := k) (i := i) (by rw [hT.x 10 (by omega) (by omega)]; exact hc.1) (by rw [hT.m0 5 (by omega)]; exact hc.2.1) h6 hi hk hT.e (by rw [hT.m 3 (by omega), hT.x (zsC k) (by unfold zsC; omega) (by unfold zsC; omega)]; exact hC) G 0 1000 1000 (by omega) (by omega) (by omega)
  refine ⟨T, T, U', b, e1, z1, ?_, y2, y3, y4⟩
  unfold fX7_isFound
  rw [e2, zxV_s, e3, zxB_s]
  exact z2.trans (by rw [y1, zxV_s])
theorem zfd_end {I J T U : zxI} {G W k N : Nat} {x4 cnt : Int32} {v1 v3 : Int32} (h : zR I J) (hc : zRc I J G W) (hX : zFX I T) (hM : zFM J U) (h9 : U 0 9 = J 0 9) (F f' : Nat) : zP (fX6_found_L89 k (F + 1) v3 x4 cnt (nI G) T) (fX7_found_L76 (f' + 1) v1 v3 x4 cnt (nI (W * G)) U) := by
  have t10 : T 10 0 = nI G := by rw [hX 10 (by omega) (by omega)]; exact hc.1
  have u5 : U 0 5 = nI G := by rw [hM.2 5 (by omega)]; exact hc.2.1
  have u6 : U 0 6 = nI W := by rw [hM.2 6 (by omega)]; exact hc.2.2.2.2.2.1
  have h6 : G ≤ 6 := hc.2.2.2.1
  have h4 : W ≤ 4 := hc.2.2.2.2.2.2.1
  have b24 : W * G ≤ 24 := Nat.mul_le_mul h4 h6
  have t : nI G ≤ nI G := nI_le (Nat.le_refl _) (by omega)
  have t2 : nI (W * G) ≤ nI (W * G) := nI_le (Nat.le_refl _) (by omega)
  rw [fX6_found_L89, fX7_found_L76, t10, u5, u6, pk_mul, Nat.mul_comm G W, if_pos t, if_pos t2]
  exact zP_ite (fun _ => zP_ok (zR_nx h hX hM h9)) (fun _ => zP_ok (zR_nx h hX hM h9))
theorem zfd_L {I J : zxI} {G W k i : Nat} {x4 : Int32} (h : zR I J) (hc : zRc I J G W) (hk : k < 4) (hi : i + G ≤ 60) (hC : ∀ q, q < 60 → J 3 (60 * k + q) = I (zsC k) q) : ∀ (m g w F1 F2 f' : Nat) (T U : zxI) (cnt : Int32), g < G → w < W → W * g + w + m = W * G → G ≤ g + F1 → W < w + F2 → m < f' → zFX I T → zFM J U → U 0 9 = J 0 9 → zP (fX6_found_L104 (fun a0 a1 a2 a3 I => fX6_found_L89 k F1 a0 a1 a2 a3 I) k F2 (nI i) x4 cnt (nI g) (nI w) T) (fX7_found_L76 f' (nI k) (nI i) x4 cnt (nI (W * g + w)) U) := by
  have h6 : G ≤ 6 := hc.2.2.2.1
  have h4 : W ≤ 4 := hc.2.2.2.2.2.2.1
  intro m
  induction m with
  | zero =>
    intro g w F1 F2 f' T U cnt hg hw hm
    have := (zq_WG hw hg h6 h4).1
    omega
  | succ m ih =>
    intro g w F1 F2 f' T U cnt hg hw hm hF1 hF2 hf' hX hM h9
    obtain ⟨F2, rfl⟩ : ∃ x, F2 = x + 1 := ⟨F2 - 1, by omega⟩
    obtain ⟨f', rfl⟩ : ∃ x, f' = x + 1 := ⟨f' - 1, by omega⟩
    have hWG := zq_WG hw hg h6 h4
    have t11 : T 10 1 = nI W := by rw [hX 10 (by omega) (by omega)]; exact hc.2.2.2.2.1
    have u5 : U 0 5 = nI G := by rw [hM.2 5 (by omega)]; exact hc.2.1
    have u6 : U 0 6 = nI W := by rw [hM.2 6 (by omega)]; exact hc.2.2.2.2.2.1
    have a2 : (60 : Int32) * nI k + nI i = nI (60 * k + i) := by rw [show (60 : Int32) = nI 60 from rfl, pk_mul, nI_add]
    obtain ⟨T', T'', U', b, y1, y2, y3, y4, y5, y6⟩ := zfd_S hc hk hi hC hX hM h9 hg hw
    have t1 : ¬ nI W ≤ nI w := nI_ge (by omega) (by omega)
    have t2 : ¬ nI (W * G) ≤ nI (W * g + w) := nI_ge (by omega) (by omega)
    have t3 : ¬ nI W = 0 := nI_ne0 (by omega) (by omega)
    have u6' : U' 0 6 = nI W := by rw [y5.2 6 (by omega)]; exact hc.2.2.2.2.2.1
    have e1 : nI (W * g + w) / nI W = nI g := by rw [pk_div (by omega) (by omega) (by omega), (zq_dv hw).1]
    have e2 : nI (W * g + w) - nI g * nI W = nI w := by
      have := pk_rem (a := W * g + w) (d := W) (by omega) (by omega) (by omega)
      rw [e1, (zq_dv hw).2] at this
      exact this
    have next : ∀ cnt', zP (fX6_found_L104 (fun a0 a1 a2 a3 I => fX6_found_L89 k F1 a0 a1 a2 a3 I) k F2 (nI i) x4 cnt' (nI g) (nI (w + 1)) T'') (fX7_found_L76 f' (nI k) (nI i) x4 cnt' (nI (W * g + w + 1)) U') := by
      intro cnt'
      by_cases q : w + 1 < W
      · exact ih g (w + 1) F1 F2 f' T'' U' cnt' hg q (by omega) hF1 (by omega) (by omega) y4 y5 y6
      · obtain ⟨F2, rfl⟩ : ∃ x, F2 = x + 1 := ⟨F2 - 1, by omega⟩
        have eW : w + 1 = W := by omega
        have t4 : nI W ≤ nI (w + 1) := nI_le (by omega) (by omega)
        have t11' : T'' 10 1 = nI W := by rw [y4 10 (by omega) (by omega)]; exact hc.2.2.2.2.1
        have eN : W * g + w + 1 = W * (g + 1) := by rw [Nat.mul_succ]; omega
        rw [fX6_found_L104, t11', if_pos t4, nI_1, eN]
        obtain ⟨F1, rfl⟩ : ∃ x, F1 = x + 1 := ⟨F1 - 1, by omega⟩
        by_cases q2 : g + 1 < G
        · have t10' : T'' 10 0 = nI G := by rw [y4 10 (by omega) (by omega)]; exact hc.1
          have t5 : ¬ nI G ≤ nI (g + 1) := nI_ge (by omega) (by omega)
          show zP (fX6_found_L89 k (F1 + 1) (nI i) x4 cnt' (nI (g + 1)) T'') _
          rw [fX6_found_L89, t10', if_neg t5]
          exact ih (g + 1) 0 F1 1000 f' T'' U' cnt' q2 (by omega) (by omega) (by omega) (by omega) (by omega) y4 y5 y6
        · have eG : g + 1 = G := by omega
          obtain ⟨f', rfl⟩ : ∃ x, f' = x + 1 := ⟨f' - 1, by omega⟩
          rw [eG]
          exact zfd_end (N := 0) h hc y4 y5 y6 F1 f'
    rw [fX6_found_L104, fX7_found_L76, t11, u5, u6, if_neg t1, pk_mul, Nat.mul_comm G W, if_neg t2, if_pos t3, a2, e1, e2, y1, zxV_s, y2, y3, zxB_s, zxB_s, u6', e1, e2, nI_1, nI_1]
    refine zP_ite (fun _ => next cnt) (fun _ => ?_)
    by_cases q : cnt = x4
    · rw [if_pos q, if_pos q, if_pos t3]
      exact zP_ok (zR_nx h y4 y5 y6)
    · rw [if_neg q, if_neg q]
      exact next (cnt + 1)
theorem zi_fd {α : Type} {x : Int32} {A B : α} : (if x < -1 then A else if x < 24 then B else A) = if -1 ≤ x ∧ x ≤ 23 then B else A := by grind
theorem zop_found {I J : zxI} (h : zR I J) (x1 x2 x3 x4 : Int32) : zP (fX6_found x1 x2 x3 x4 I) (fX7_found x1 x2 x3 x4 J) := by
  have h := zR_fault h 0
  unfold fX6_found fX7_found fX6_faulted fX7_fails
  generalize zxU I 0 10 0 = I at h ⊢
  generalize zxU J 0 0 0 = J at h ⊢
  obtain ⟨⟨G, W, hc⟩, hf⟩ := id h
  have h6 : G ≤ 6 := hc.2.2.2.1
  simp only [zX_isS, zM_isS, zX_isL, zM_isL, zM_wi, zX_hM hc.1 h6, hc.2.1, zM_hM h6, zxB_s, zi_b, zi_b', zi_fd]
  refine zP_ite (fun q => ?_) (fun _ => zP_ok h)
  refine zP_ite (fun q2 => ?_) (fun _ => zP_ok h)
  refine zP_ite (fun q3 => ?_) (fun _ => zP_ok h)
  refine zP_ite (fun q4 => zP_ok h) (fun q4 => ?_)
  obtain ⟨k, hk, rfl⟩ := zq_ofL (n := 3) rfl q
  have hk4 : k < 4 := by omega
  obtain ⟨f, hf4, ef, eg, hz0⟩ := zfc hf hk4 x2 x3 (nI G)
  rw [if_pos (zq_in hk4 (by decide)), zq_cl (show k < 2 ^ 31 by omega), hc.1, ef, eg, zxB_s, zxB_s]
  by_cases qf : f = 0
  · subst qf
    obtain ⟨z1, n0, i, m, z2, e3, z4, z5, z6, z7⟩ := hz0 rfl
    subst e3
    have em : m = G := ((nI_eq (by omega) (by omega)).mp z4).symm
    subst em
    have t0 : nI 0 = (0 : Int32) := rfl
    have t1 : ¬ nI m ≤ (0 : Int32) := nI_nle (by omega) (by omega)
    have hW : 0 < W := hc.2.2.2.2.2.2.2.1 (by omega)
    have := zfd_L (x4 := x4) (i := i) h hc hk4 (by omega) z7 (W * m) 0 0 999 1000 1000 I J 0 (by omega) hW (by omega) (by omega) (by have := hc.2.2.2.2.2.2.1; omega) (by have := Nat.mul_le_mul hc.2.2.2.2.2.2.1 h6; omega) (fun _ _ _ => rfl) zFM_r rfl
    rw [if_pos t0, if_pos t0, fX6_found_L89, hc.1, if_neg t1]
    exact this
  · have n0 : ¬ nI f = 0 := nI_ne0 (by omega) (by omega)
    rw [if_neg n0, if_neg n0]
    exact zP_ok (zR_fault h (nI f))
