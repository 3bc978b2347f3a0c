/-! birds drop; breaths -/
theorem zX_bearing (a b : Int32) (I : zxI) : fX6_bearing a b I = some (zbe a b, I) := by
  unfold fX6_bearing zbe
  split
  · rfl
  · split <;> rfl
theorem zX_bears {k : Nat} (hk : k < 6) (I : zxI) : fX2_bears (nI k) I = some (zbe (I 12 k) (I 13 k), I) := by
  unfold fX2_bears
  rw [if_pos (zq_in hk (by decide)), zq_cl (by omega), zX_bearing]
  rfl
def zK3 (a : Int32) : Prop := a = 0 ∨ a = 1 ∨ a = 2
theorem zM_bearsBy {a b : Int32} (h : zK3 a) (I : zxI) : fX7_bearsBy a b I = some (zbe a b, I) := by
  rcases h with rfl | rfl | rfl <;> rfl
theorem zM_bears {k : Nat} (hk : k < 6) {I : zxI} (h : zK3 (I 5 k)) : fX7_bearsOf (nI k) I = some (zbe (I 5 k) (I 7 k), I) := by
  unfold fX7_bearsOf
  rw [if_pos (zq_in hk (by decide)), zq_cl (by omega), zM_bearsBy h]
  rfl
theorem zX_dropL {j G : Nat} : ∀ (m k n : Nat) (a : Int32) (I : zxI), I 10 0 = nI G → G ≤ 6 → k + m = G → m < n → fX2_dropBirds_L4 j n a (nI k) I = some (zds (I (zaF j)) (I 12) (I 13) (I (zaO j) 1) m k a, zxU I (zaO j) 1 (I (zaO j) 1 ||| zds (I (zaF j)) (I 12) (I 13) (I (zaO j) 1) m k a)) := by
  intro m
  induction m with
  | zero =>
    intro k n a I hG h6 hk hn
    obtain ⟨n, rfl⟩ : ∃ n', n = n' + 1 := ⟨n - 1, by omega⟩
    rw [fX2_dropBirds_L4, hG, if_pos (nI_le (by omega) (by omega))]
    rfl
  | succ m ih =>
    intro k n a I hG h6 hk hn
    obtain ⟨n, rfl⟩ : ∃ n', n = n' + 1 := ⟨n - 1, by omega⟩
    rw [fX2_dropBirds_L4, hG, if_neg (nI_ge (by omega) (by omega))]
    unfold fX0_isDown zds
    by_cases c1 : ((I (zaO j) 1 >>> (nI k &&& 31)) &&& 1) = 1
    · rw [if_pos c1, if_pos c1]
      simp only [zxB]
      rw [if_neg (by decide), nI_1]
      exact ih (k + 1) n a I hG h6 (by omega) (by omega)
    · rw [if_neg c1, if_neg c1]
      simp only [zxB]
      rw [if_pos trivial, if_pos (zq_in (show k < 6 by omega) (by decide)), zX_bears (by omega)]
      simp only [zxB]
      rw [zq_cl (by omega), nI_1]
      by_cases c2 : I (zaF j) k ≤ zbe (I 12 k) (I 13 k)
      · rw [if_pos c2, if_pos c2]
        exact ih (k + 1) n a I hG h6 (by omega) (by omega)
      · rw [if_neg c2, if_neg c2]
        exact ih (k + 1) n _ I hG h6 (by omega) (by omega)
theorem zM_dropL {G : Nat} : ∀ (m k n : Nat) (a : Int32) (I : zxI), I 0 5 = nI G → G ≤ 6 → (∀ g, g < 6 → zK3 (I 5 g)) → k + m = G → m < n → fX7_drop_L4 n a (nI k) I = some (zds (I 6) (I 5) (I 7) (I 0 8) m k a, zxU I 0 8 (I 0 8 ||| zds (I 6) (I 5) (I 7) (I 0 8) m k a)) := by
  intro m
  induction m with
  | zero =>
    intro k n a I hG h6 hK hk hn
    obtain ⟨n, rfl⟩ : ∃ n', n = n' + 1 := ⟨n - 1, by omega⟩
    rw [fX7_drop_L4, hG, if_pos (nI_le (by omega) (by omega))]
    rfl
  | succ m ih =>
    intro k n a I hG h6 hK hk hn
    obtain ⟨n, rfl⟩ : ∃ n', n = n' + 1 := ⟨n - 1, by omega⟩
    rw [fX7_drop_L4, hG, if_neg (nI_ge (by omega) (by omega))]
    unfold fX7_isOf zds
    by_cases c1 : ((I 0 8 >>> (nI k &&& 31)) &&& 1) = 1
    · rw [if_pos c1, if_pos c1]
      simp only [zxB]
      rw [if_neg (by decide), nI_1, Int32.or_zero]
      exact ih (k + 1) n a I hG h6 hK (by omega) (by omega)
    · rw [if_neg c1, if_neg c1]
      simp only [zxB]
      rw [if_pos trivial, if_pos (zq_in (show k < 6 by omega) (by decide)), zM_bears (by omega) (hK k (by omega))]
      simp only [zxB]
      rw [zq_cl (by omega), nI_1, Int32.or_zero]
      by_cases c2 : I 6 k ≤ zbe (I 5 k) (I 7 k)
      · rw [if_pos c2, if_pos c2]
        exact ih (k + 1) n a I hG h6 hK (by omega) (by omega)
      · rw [if_neg c2, if_neg c2]
        exact ih (k + 1) n _ I hG h6 hK (by omega) (by omega)
/-- a hushed breath of G galleries: who drops, how foul, who is down -/
def zbh (G : Nat) (dr : Int32) (ks ss f : Nat → Int32) (d : Int32) : Int32 × (Nat → Int32) × Int32 :=
  (zds (zps dr (G - 1) 0 f 0).1 ks ss d G 0 0, (zps dr (G - 1) 0 f 0).1, d ||| zds (zps dr (G - 1) 0 f 0).1 ks ss d G 0 0)
/-- a breath with a word -/
def zbr (G : Nat) (dr : Int32) (b ks ss f : Nat → Int32) (d : Int32) (g w : Nat) : Int32 × (Nat → Int32) × Int32 := zbh G dr ks ss (upd f g (zcl (f g + b w - 4))) d
def zAX (I : zxI) (j : Nat) (f : Nat → Int32) (d : Int32) : zxI := zxU (zSR I (zaF j) f) (zaO j) 1 d
def zAM (I : zxI) (f : Nat → Int32) (d : Int32) : zxI := zxU (zSR I 6 f) 0 8 d
theorem zX_bh {j G : Nat} {dr : Int32} {I : zxI} (hG : I 10 0 = nI G) (h6 : G ≤ 6) (hF : zF (I (zaF j))) : fX2_breatheHushed j dr I = some ((zbh G dr (I 12) (I 13) (I (zaF j)) (I (zaO j) 1)).1, zAX I j (zbh G dr (I 12) (I 13) (I (zaF j)) (I (zaO j) 1)).2.1 (zbh G dr (I 12) (I 13) (I (zaF j)) (I (zaO j) 1)).2.2) := by
  unfold fX2_breatheHushed
  rw [zX_pass hG h6 hF]
  simp only [zxB, fX2_dropBirds]
  have h0 : (0 : Int32) = nI 0 := rfl
  have e1 : ∀ f, zSR I (zaF j) f 10 = I 10 := fun f => zSR_n (Ne.symm (za_ne (by omega)))
  have e2 : ∀ f, zSR I (zaF j) f 12 = I 12 := fun f => zSR_n (Ne.symm (za_ne (by omega)))
  have e3 : ∀ f, zSR I (zaF j) f 13 = I 13 := fun f => zSR_n (Ne.symm (za_ne (by omega)))
  have e4 : ∀ f, zSR I (zaF j) f (zaO j) = I (zaO j) := fun f => zSR_n (Ne.symm za_ne3)
  have := zX_dropL (j := j) (G := G) G 0 1000 0 (zSR I (zaF j) (zps dr (G - 1) 0 (I (zaF j)) 0).1) (by rw [e1]; exact hG) h6 (by omega) (by omega)
  rw [← h0, e2, e3, e4, zSR_s] at this
  rw [this]
  rfl
theorem zM_bh {G : Nat} {I : zxI} (hG : I 0 5 = nI G) (h6 : G ≤ 6) (hK : ∀ g, g < 6 → zK3 (I 5 g)) : (zxB (fX7_pass I) (fun (r_2 : Int32) (I_2 : zxI) => zxB (fX7_drop I_2) (fun (r_3 : Int32) (I_3 : zxI) => some (r_3, I_3)))) = some ((zbh G (I 0 9) (I 5) (I 7) (I 6) (I 0 8)).1, zAM I (zbh G (I 0 9) (I 5) (I 7) (I 6) (I 0 8)).2.1 (zbh G (I 0 9) (I 5) (I 7) (I 6) (I 0 8)).2.2) := by
  rw [zM_pass hG h6]
  simp only [zxB, fX7_drop]
  have h0 : (0 : Int32) = nI 0 := rfl
  have e0 : ∀ f, zSR I 6 f 0 = I 0 := fun f => zSR_n (by decide)
  have e5 : ∀ f, zSR I 6 f 5 = I 5 := fun f => zSR_n (by decide)
  have e7 : ∀ f, zSR I 6 f 7 = I 7 := fun f => zSR_n (by decide)
  have := zM_dropL (G := G) G 0 1000 0 (zSR I 6 (zps (I 0 9) (G - 1) 0 (I 6) 0).1) (by rw [e0]; exact hG) h6 (by rw [e5]; exact hK) (by omega) (by omega)
  rw [← h0, e0, e5, e7, zSR_s] at this
  rw [this]
  rfl
theorem zX_br {j G g w : Nat} {dr : Int32} {I : zxI} (hG : I 10 0 = nI G) (h6 : G ≤ 6) (hF : zF (I (zaF j))) (hg : g < 6) (hw : w < 4) (hb : ∃ v, v < 10 ∧ I 11 w = nI v) : fX2_breathe j dr (nI g) (nI w) I = some ((zbr G dr (I 11) (I 12) (I 13) (I (zaF j)) (I (zaO j) 1) g w).1, zAX I j (zbr G dr (I 11) (I 12) (I 13) (I (zaF j)) (I (zaO j) 1) g w).2.1 (zbr G dr (I 11) (I 12) (I 13) (I (zaF j)) (I (zaO j) 1) g w).2.2) := by
  unfold fX2_breathe
  rw [if_pos (zq_in hg (by decide)), if_pos (zq_in hw (by decide)), zq_cl (by omega), zq_cl (by omega), zcl_X, zSR_U]
  obtain ⟨v, hv, ev⟩ := hb
  obtain ⟨u, hu, eu⟩ := hF g hg
  obtain ⟨x, hx, ex⟩ := zcl_F u hu v hv
  have e1 : ∀ f, zSR I (zaF j) f 10 = I 10 := fun f => zSR_n (Ne.symm (za_ne (by omega)))
  have e2 : ∀ f, zSR I (zaF j) f 12 = I 12 := fun f => zSR_n (Ne.symm (za_ne (by omega)))
  have e3 : ∀ f, zSR I (zaF j) f 13 = I 13 := fun f => zSR_n (Ne.symm (za_ne (by omega)))
  have e4 : ∀ f, zSR I (zaF j) f (zaO j) = I (zaO j) := fun f => zSR_n (Ne.symm za_ne3)
  rw [zX_bh (G := G) (by rw [e1]; exact hG) h6 (by rw [zSR_s, eu, ev, ex]; exact zF_up hF hx)]
  simp only [zxB, e2, e3, e4, zSR_s]
  unfold zAX zbr
  rw [zSR_SR]
theorem zM_br {G g w : Nat} {I : zxI} (hG : I 0 5 = nI G) (h6 : G ≤ 6) (hK : ∀ g, g < 6 → zK3 (I 5 g)) (hg : g < 6) (hw : w < 4) : fX7_breathe (nI g) (nI w) I = some ((zbr G (I 0 9) (I 4) (I 5) (I 7) (I 6) (I 0 8) g w).1, zAM I (zbr G (I 0 9) (I 4) (I 5) (I 7) (I 6) (I 0 8) g w).2.1 (zbr G (I 0 9) (I 4) (I 5) (I 7) (I 6) (I 0 8) g w).2.2) := by
  have hs : fX7_sayIn (nI g) (nI w) I = some (zSR I 6 (upd (I 6) g (zcl (I 6 g + I 4 w - 4)))) := by
    unfold fX7_sayIn
    rw [if_pos (zq_in hg (by decide)), if_pos (zq_in hw (by decide)), zq_cl (by omega), zq_cl (by omega)]
    unfold zcl
    by_cases c1 : I 6 g + I 4 w - 4 < 0
    · rw [if_neg (Int32.not_le.mpr c1), if_pos c1, zSR_U]
    · rw [if_pos (Int32.not_lt.mp c1), if_neg c1]
      by_cases c2 : 40 < I 6 g + I 4 w - 4
      · rw [if_neg (Int32.not_le.mpr c2), if_pos c2, zSR_U]
      · rw [if_pos (Int32.not_lt.mp c2), if_neg c2, zSR_U]
  unfold fX7_breathe
  rw [hs]
  simp only [zxV]
  have e0 : ∀ f, zSR I 6 f 0 = I 0 := fun f => zSR_n (by decide)
  have e5 : ∀ f, zSR I 6 f 5 = I 5 := fun f => zSR_n (by decide)
  have e7 : ∀ f, zSR I 6 f 7 = I 7 := fun f => zSR_n (by decide)
  rw [zM_bh (G := G) (by rw [e0]; exact hG) h6 (by rw [e5]; exact hK), e0, e5, e7, zSR_s]
  unfold zAM zbr
  rw [zSR_SR]
theorem zbh_F {G : Nat} {dr : Int32} {ks ss f : Nat → Int32} {d : Int32} (h6 : G ≤ 6) (hF : zF f) : zF (zbh G dr ks ss f d).2.1 := zps_F dr (G - 1) 0 f 0 (by omega) hF
theorem zbr_F {G g w : Nat} {dr : Int32} {b ks ss f : Nat → Int32} {d : Int32} (h6 : G ≤ 6) (hF : zF f) (hg : g < 6) (hb : ∃ v, v < 10 ∧ b w = nI v) : zF (zbr G dr b ks ss f d g w).2.1 := by
  obtain ⟨v, hv, ev⟩ := hb
  obtain ⟨u, hu, eu⟩ := hF g hg
  obtain ⟨x, hx, ex⟩ := zcl_F u hu v hv
  refine zbh_F h6 ?_
  rw [eu, ev, ex]
  exact zF_up hF hx
theorem zbh_E {G : Nat} {dr : Int32} {ks ss f f' : Nat → Int32} {d : Int32} (h6 : G ≤ 6) (h : zE6 f f') : (zbh G dr ks ss f d).1 = (zbh G dr ks ss f' d).1 ∧ zE6 (zbh G dr ks ss f d).2.1 (zbh G dr ks ss f' d).2.1 ∧ (zbh G dr ks ss f d).2.2 = (zbh G dr ks ss f' d).2.2 := by
  have h1 := (zps_E dr (G - 1) 0 f f' 0 (by omega) h).1
  have h2 := zds_E ks ss d G 0 _ _ 0 (by omega) h1
  exact ⟨h2, h1, by show d ||| _ = d ||| _; rw [h2]⟩
theorem zbr_E {G g w : Nat} {dr : Int32} {b ks ss f f' : Nat → Int32} {d : Int32} (h6 : G ≤ 6) (h : zE6 f f') (hg : g < 6) : (zbr G dr b ks ss f d g w).1 = (zbr G dr b ks ss f' d g w).1 ∧ zE6 (zbr G dr b ks ss f d g w).2.1 (zbr G dr b ks ss f' d g w).2.1 ∧ (zbr G dr b ks ss f d g w).2.2 = (zbr G dr b ks ss f' d g w).2.2 := by
  unfold zbr
  rw [h g hg]
  exact zbh_E h6 (zE6_up h _ _)
