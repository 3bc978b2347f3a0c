/-! the plain operations -/
theorem zxB_s {ρ β : Type} {r : ρ} {I : zxI} {f : ρ → zxI → Option β} : zxB (some (r, I)) f = f r I := rfl
theorem zxV_s {β : Type} {I : zxI} {f : zxI → Option β} : zxV (some I) f = f I := rfl
theorem zX_isG (x : Int32) (I : zxI) : fX6_isGallery x I = some (if 0 ≤ x ∧ x < I 10 0 then 1 else 0, I) := by unfold fX6_isGallery; grind
theorem zM_isG (x : Int32) (I : zxI) : fX7_isGallery x I = some (if 0 ≤ x ∧ x < I 0 5 then 1 else 0, I) := by unfold fX7_isGallery; grind
theorem zX_isW (x : Int32) (I : zxI) : fX6_isWord x I = some (if 0 ≤ x ∧ x < I 10 1 then 1 else 0, I) := by unfold fX6_isWord; grind
theorem zM_isW (x : Int32) (I : zxI) : fX7_isWord x I = some (if 0 ≤ x ∧ x < I 0 6 then 1 else 0, I) := by unfold fX7_isWord; grind
theorem zX_isD (x : Int32) (I : zxI) : fX6_isDoor x I = some (if 0 ≤ x ∧ x < I 10 0 - 1 then 1 else 0, I) := by unfold fX6_isDoor; grind
theorem zM_isD (x : Int32) (I : zxI) : fX7_isDoor x I = some (if 0 ≤ x ∧ x < I 0 5 - 1 then 1 else 0, I) := by unfold fX7_isDoor; grind
theorem zX_isS (x : Int32) (I : zxI) : fX6_isSheet x I = some (if 0 ≤ x ∧ x ≤ 3 then 1 else 0, I) := by unfold fX6_isSheet; grind
theorem zX_isL (x : Int32) (I : zxI) : fX6_isLane x I = some (if 0 ≤ x ∧ x ≤ 2 then 1 else 0, I) := by unfold fX6_isLane; grind
theorem zX_isF (x : Int32) (I : zxI) : fX6_isFoul x I = some (if 0 ≤ x ∧ x ≤ 40 then 1 else 0, I) := by unfold fX6_isFoul; grind
theorem zM_wi (x a b : Int32) (I : zxI) : fX7_within x a b I = some (if a ≤ x ∧ x ≤ b then 1 else 0, I) := by unfold fX7_within; grind
theorem zM_isS (x : Int32) (I : zxI) : fX7_isSheet x I = some (if 0 ≤ x ∧ x ≤ 3 then 1 else 0, I) := by
  unfold fX7_isSheet
  rw [zM_wi, zxB_s]
  grind
theorem zM_isL (x : Int32) (I : zxI) : fX7_isSort x I = some (if 0 ≤ x ∧ x ≤ 2 then 1 else 0, I) := by
  unfold fX7_isSort
  rw [zM_wi, zxB_s]
  grind
theorem zi10 : ((1 : Int32) = 0) = False := by decide
theorem zi00 : ((0 : Int32) = 0) = True := by decide
theorem zq_of {x : Int32} {n : Nat} (hn : n < 2 ^ 31) (h : 0 ≤ x ∧ x < nI n) : ∃ k, k < n ∧ x = nI k := by
  rcases pk_ix x hn with q | q | q
  · exact absurd h.1 (Int32.not_le.mpr q)
  · exact absurd h.2 (Int32.not_lt.mpr q)
  · exact q
theorem zq_ofL {x M : Int32} {n : Nat} (hM : M.toInt = n) (h : 0 ≤ x ∧ x ≤ M) : ∃ k, k ≤ n ∧ x = nI k := nI_of2 hM (Int32.not_lt.mpr h.1) h.2
theorem zi_b {α : Type} {c : Prop} [Decidable c] {a b : α} : (if (if c then (1 : Int32) else 0) = 0 then a else b) = if c then b else a := by
  by_cases q : c
  · simp only [if_pos q, zi10, if_false]
  · simp only [if_neg q, zi00, if_true]
/-- the same answer, and the relation again -/
def zP {ρ : Type} (a b : Option (ρ × zxI)) : Prop := ∃ (r : ρ) (I J : zxI), a = some (r, I) ∧ b = some (r, J) ∧ zR I J
theorem zP_ok {ρ : Type} {r : ρ} {I J : zxI} (h : zR I J) : zP (some (r, I)) (some (r, J)) := ⟨r, I, J, rfl, rfl, h⟩
theorem zP_ite {ρ : Type} {c : Prop} [Decidable c] {a b a' b' : Option (ρ × zxI)} (h1 : c → zP a b) (h2 : ¬ c → zP a' b') : zP (if c then a else a') (if c then b else b') := by
  by_cases q : c
  · rw [if_pos q, if_pos q]; exact h1 q
  · rw [if_neg q, if_neg q]; exact h2 q
theorem zP_l {ρ : Type} {c : Prop} [Decidable c] {a b a' : Option (ρ × zxI)} (h1 : c → zP a b) (h2 : ¬ c → zP a' b) : zP (if c then a else a') b := by
  by_cases q : c
  · rw [if_pos q]; exact h1 q
  · rw [if_neg q]; exact h2 q
theorem zP_r {ρ : Type} {c : Prop} [Decidable c] {a b b' : Option (ρ × zxI)} (h1 : c → zP a b) (h2 : ¬ c → zP a b') : zP a (if c then b else b') := by
  by_cases q : c
  · rw [if_pos q]; exact h1 q
  · rw [if_neg q]; exact h2 q
theorem zop_trace {I J : zxI} (h : zR I J) : zP (fX6_trace I) (fX7_trace J) := by
  obtain ⟨⟨G, W, c1, c2, c3, c4, c5, c6, c7, c8, c9, c10, c11, -⟩, hf⟩ := id h
  unfold fX6_trace fX7_trace
  rw [c10]
  exact zP_ok h
theorem zop_fault {I J : zxI} (h : zR I J) : zP (fX6_fault I) (fX7_fault J) := by
  obtain ⟨⟨G, W, c1, c2, c3, c4, c5, c6, c7, c8, c9, c10, c11, -⟩, hf⟩ := id h
  unfold fX6_fault fX7_fault
  rw [c11]
  exact zP_ok h
theorem zop_bad {I J : zxI} (h : zR I J) (x1 : Int32) : zP (fX6_bad x1 I) (fX7_bad x1 J) := by
  obtain ⟨⟨G, W, c1, c2, c3, c4, c5, c6, c7, c8, c9, c10, c11, c12, c13, c14, c15, c16, -⟩, hf⟩ := id h
  unfold fX6_bad fX7_bad
  simp only [zX_isW, zM_isW, zxB_s, zi_b, c5, c6]
  refine zP_ite (fun q => ?_) (fun _ => zP_ok h)
  obtain ⟨w, hw, rfl⟩ := zq_of (by omega) q
  simp only [zq_in (show w < 4 by omega) (show 4 < 2 ^ 31 by decide), if_true, c16]
  exact zP_ok h
theorem zop_foul {I J : zxI} (h : zR I J) (x1 x2 : Int32) : zP (fX6_foul x1 x2 I) (fX7_foul x1 x2 J) := by
  obtain ⟨⟨G, W, c1, c2, c3, c4, c5, c6, c7, c8, c9, c10, c11, c12, c13, c14, c15, c16, c17, c18, -⟩, hf⟩ := id h
  unfold fX6_foul fX7_foul
  simp only [zX_isG, zM_isG, zX_isF, zM_wi, zxB_s, zi_b, c1, c2]
  refine zP_ite (fun q => ?_) (fun _ => zP_ok h)
  refine zP_ite (fun q2 => ?_) (fun _ => zP_ok h)
  obtain ⟨g, hg, rfl⟩ := zq_of (by omega) q
  obtain ⟨v, hv, rfl⟩ := zq_ofL (n := 40) rfl q2
  simp only [if_true, zq_in (show g < 6 by omega) (show 6 < 2 ^ 31 by decide), zq_cl (show g < 2 ^ 31 by omega), zSR_U, c18]
  have := zR_foul h (g := g) (v := v) (by omega)
  rw [c18] at this
  exact zP_ok this
theorem zop_breed {I J : zxI} (h : zR I J) (x1 x2 : Int32) : zP (fX6_breed x1 x2 I) (fX7_breed x1 x2 J) := by
  obtain ⟨⟨G, W, c1, c2, c3, c4, c5, c6, c7, c8, c9, c10, c11, c12, c13, c14, c15, c16, c17, c18, c19, -⟩, hf⟩ := id h
  unfold fX6_breed fX7_breed
  simp only [zX_isG, zM_isG, zM_wi, zxB_s, zi_b, c1, c2]
  refine zP_ite (fun q => ?_) (fun _ => zP_ok h)
  refine zP_l (fun q1 => ?_) (fun q1 => zP_l (fun q2 => ?_) (fun q2 => ?_))
  · rw [if_neg (fun z => absurd z.1 (Int32.not_le.mpr q1))]
    exact zP_ok h
  · obtain ⟨g, hg, rfl⟩ := zq_of (by omega) q
    rw [if_pos (And.intro (Int32.not_lt.mp q1) q2)]
    obtain ⟨v, hv, rfl⟩ := zq_ofL (x := x2) (M := 9) (n := 9) rfl ⟨by grind, q2⟩
    simp only [if_true, zq_in (show g < 6 by omega) (show 6 < 2 ^ 31 by decide), zq_cl (show g < 2 ^ 31 by omega), zSR_U, c19]
    have := zR_strong h (g := g) (v := v) (by omega)
    rw [c19] at this
    exact zP_ok this
  · rw [if_neg (fun z => q2 z.2)]
    exact zP_ok h
theorem zop_ofGallery {I J : zxI} (h : zR I J) (x1 x2 : Int32) : zP (fX6_ofGallery x1 x2 I) (fX7_ofGallery x1 x2 J) := by
  obtain ⟨⟨G, W, c1, c2, c3, c4, c5, c6, c7, c8, c9, c10, c11, c12, c13, c14, c15, c16, c17, c18, c19, c20, c21, c22, -⟩, hf⟩ := id h
  unfold fX6_ofGallery fX7_ofGallery
  simp only [zX_isG, zM_isG, zxB_s, zi_b, c1, c2]
  refine zP_ite (fun q => ?_) (fun _ => zP_ok h)
  obtain ⟨g, hg, rfl⟩ := zq_of (by omega) q
  have hg6 : g < 6 := by omega
  have hk : zK3 (J 5 g) := by rw [c17]; exact c22 g hg6
  simp only [if_true, zq_in hg6 (show 6 < 2 ^ 31 by decide), zq_cl (show g < 2 ^ 31 by omega), zX_bears hg6, zM_bears hg6 hk, zX_isD, zM_isD, zxB_s, zi_b, c1, c2, c12, c14, c17, c18, c19]
  refine zP_ite (fun _ => zP_ok h) (fun _ => zP_ite (fun _ => zP_ok h) (fun _ => zP_ite (fun _ => zP_ok h) (fun _ => zP_ite (fun _ => zP_ok h) (fun _ => zP_ite (fun _ => zP_ok h) (fun _ => zP_ite (fun _ => zP_ite (fun _ => zP_ok h) (fun _ => zP_ok h)) (fun _ => zP_ok h))))))
theorem zd_set : ∀ d, d < 32 → ∀ k, k < 5 → ∀ b, b < 2 → ∃ e, e < 32 ∧ (nI d &&& (((1 : Int32) <<< (nI k &&& 31)) ^^^ (-1))) ||| (nI b <<< (nI k &&& 31)) = nI e := by
  have h : ∀ d, d < 32 → ∀ k, k < 5 → ∀ b, b < 2 → ((nI d &&& (((1 : Int32) <<< (nI k &&& 31)) ^^^ (-1))) ||| (nI b <<< (nI k &&& 31))).toNatClampNeg < 32 ∧ (nI d &&& (((1 : Int32) <<< (nI k &&& 31)) ^^^ (-1))) ||| (nI b <<< (nI k &&& 31)) = nI ((nI d &&& (((1 : Int32) <<< (nI k &&& 31)) ^^^ (-1))) ||| (nI b <<< (nI k &&& 31))).toNatClampNeg := by decide +kernel
  exact fun d hd k hk b hb => ⟨_, (h d hd k hk b hb).1, (h d hd k hk b hb).2⟩
theorem zop_door {I J : zxI} (h : zR I J) (x1 x2 : Int32) : zP (fX6_door x1 x2 I) (fX7_door x1 x2 J) := by
  obtain ⟨⟨G, W, c1, c2, c3, c4, c5, c6, c7, c8, c9, c10, c11, c12, c13, c14, ⟨d, hd, ed⟩, -⟩, hf⟩ := id h
  unfold fX6_door fX7_door
  simp only [zX_isD, zM_isD, zM_wi, zxB_s, zi_b, c1, c2]
  refine zP_ite (fun q => ?_) (fun _ => zP_ok h)
  have hG : 1 ≤ G := by
    rcases G with _ | G
    · exact absurd (Int32.lt_of_le_of_lt q.1 q.2) (by decide)
    · omega
  obtain ⟨G, rfl⟩ : ∃ G', G = G' + 1 := ⟨G - 1, by omega⟩
  rw [nI_pred] at q
  obtain ⟨k, hk, rfl⟩ := zq_of (by omega) q
  have key : ∀ b, b < 2 → zP (some ((I 10 5 >>> (nI k &&& 31)) &&& 1, zxU I 10 5 ((I 10 5 &&& (((1 : Int32) <<< (nI k &&& 31)) ^^^ (-1))) ||| (nI b <<< (nI k &&& 31))))) (some ((J 0 9 >>> (nI k &&& 31)) &&& 1, zxU J 0 9 ((J 0 9 &&& (((1 : Int32) <<< (nI k &&& 31)) ^^^ (-1))) ||| (nI b <<< (nI k &&& 31))))) := by
    intro b hb
    rw [c14, ed]
    obtain ⟨e, he, ee⟩ := zd_set d hd k (by omega) b hb
    rw [ee]
    exact zP_ok (zR_doors h he)
  refine zP_l (fun q1 => ?_) (fun q1 => zP_l (fun q2 => ?_) (fun q2 => ?_))
  · subst q1
    rw [if_pos (by decide)]
    exact key 0 (by omega)
  · subst q2
    rw [if_pos (by decide)]
    exact key 1 (by omega)
  · rw [if_neg (by grind)]
    exact zP_ok h
