/-! galleries of texts -/
def zfs (c : Nat → Int32) (N b s : Nat) : Prop := b + s < N ∧ zft s (c (b + s)) = true
theorem zfs0 {c : Nat → Int32} {N b : Nat} : zfs c N b 0 ↔ (b < N ∧ c b = 59) := by
  unfold zfs
  show b + 0 < N ∧ decide (c (b + 0) = 59) = true ↔ _
  rw [decide_eq_true_iff, Nat.add_zero]
theorem zfs1 {c : Nat → Int32} {N b : Nat} : zfs c N b 1 ↔ (b + 1 < N ∧ ¬ zkl (c (b + 1)) = -9) := by
  unfold zfs
  show b + 1 < N ∧ decide (¬ zkl (c (b + 1)) = -9) = true ↔ _
  rw [decide_eq_true_iff]
theorem zfs2 {c : Nat → Int32} {N b : Nat} : zfs c N b 2 ↔ (b + 2 < N ∧ (48 ≤ c (b + 2) ∧ c (b + 2) ≤ 57)) := by
  unfold zfs
  show b + 2 < N ∧ decide (48 ≤ c (b + 2) ∧ c (b + 2) ≤ 57) = true ↔ _
  rw [decide_eq_true_iff]
theorem zfs3 {c : Nat → Int32} {N b : Nat} : zfs c N b 3 ↔ (b + 3 < N ∧ (49 ≤ c (b + 3) ∧ c (b + 3) ≤ 57)) := by
  unfold zfs
  show b + 3 < N ∧ decide (49 ≤ c (b + 3) ∧ c (b + 3) ≤ 57) = true ↔ _
  rw [decide_eq_true_iff]
theorem zfs4 {c : Nat → Int32} {N b : Nat} : zfs c N b 4 ↔ (b + 4 < N ∧ (48 ≤ c (b + 4) ∧ c (b + 4) ≤ 49)) := by
  unfold zfs
  show b + 4 < N ∧ decide (48 ≤ c (b + 4) ∧ c (b + 4) ≤ 49) = true ↔ _
  rw [decide_eq_true_iff]
theorem zX_galF {I : zxI} {k i N b s0 : Nat} {c : Nat → Int32} {kk : Int32 → Int32 → Int32 → Int32 → zxI → Option (Int32 × zxI)} {v5 : Int32} (h : zcX I k i N c) (hb : b + s0 ≤ N) (h5 : s0 < 5) (hF : ¬ zfs c N b s0) (hT : ∀ s, s < s0 → zfs c N b s) : ∀ (m s f : Nat), s + m = s0 → m < f → fX6_firstFaultOfText_L60 kk k f (nI i) (nI N) (nI (b + s)) v5 (nI s) I = some (nI (b + s0), I) := by
  obtain ⟨hi, hk, hc⟩ := h
  intro m
  induction m with
  | zero =>
    intro s f hs hf
    obtain ⟨f, rfl⟩ : ∃ x, f = x + 1 := ⟨f - 1, by omega⟩
    have e : s = s0 := by omega
    subst e
    have t : ¬ (5 : Int32) ≤ nI s := nI_ge (b := 5) (by omega) (by decide)
    rw [fX6_firstFaultOfText_L60, if_neg t]
    by_cases q : b + s = N
    · have t2 : nI (b + s) = nI N := by rw [q]
      rw [if_pos t2]
    · have t2 : ¬ nI (b + s) = nI N := fun z => q ((nI_eq (by omega) (by omega)).mp z)
      rw [if_neg t2, nI_add, if_pos (zq_in (show i + (b + s) < 60 by omega) (by decide)), zq_cl (show i + (b + s) < 2 ^ 31 by omega), hc (b + s) (by omega), zX_fit h5, zxB_s, zi_b, if_neg (fun z => hF ⟨by omega, z⟩)]
  | succ m ih =>
    intro s f hs hf
    obtain ⟨f, rfl⟩ : ∃ x, f = x + 1 := ⟨f - 1, by omega⟩
    have t : ¬ (5 : Int32) ≤ nI s := nI_ge (b := 5) (by omega) (by decide)
    obtain ⟨q1, q2⟩ := hT s (by omega)
    have t2 : ¬ nI (b + s) = nI N := fun z => by have := (nI_eq (by omega) (by omega)).mp z; omega
    rw [fX6_firstFaultOfText_L60, if_neg t, if_neg t2, nI_add, if_pos (zq_in (show i + (b + s) < 60 by omega) (by decide)), zq_cl (show i + (b + s) < 2 ^ 31 by omega), hc (b + s) (by omega), zX_fit (by omega), zxB_s, zi_b, if_pos q2, nI_1, nI_1]
    exact ih (s + 1) f (by omega) (by omega)
theorem zX_galT {I : zxI} {k i N b : Nat} {c : Nat → Int32} {kk : Int32 → Int32 → Int32 → Int32 → zxI → Option (Int32 × zxI)} {v5 : Int32} (h : zcX I k i N c) (hT : ∀ s, s < 5 → zfs c N b s) : ∀ (m s f : Nat), s + m = 5 → m < f → fX6_firstFaultOfText_L60 kk k f (nI i) (nI N) (nI (b + s)) v5 (nI s) I = kk (nI i) (nI N) (nI (b + 5)) (v5 + 1) I := by
  obtain ⟨hi, hk, hc⟩ := h
  intro m
  induction m with
  | zero =>
    intro s f hs hf
    obtain ⟨f, rfl⟩ : ∃ x, f = x + 1 := ⟨f - 1, by omega⟩
    have e : s = 5 := by omega
    subst e
    rw [fX6_firstFaultOfText_L60, if_pos (by decide : (5 : Int32) ≤ nI 5)]
  | succ m ih =>
    intro s f hs hf
    obtain ⟨f, rfl⟩ : ∃ x, f = x + 1 := ⟨f - 1, by omega⟩
    have t : ¬ (5 : Int32) ≤ nI s := nI_ge (b := 5) (by omega) (by decide)
    obtain ⟨q1, q2⟩ := hT s (by omega)
    have t2 : ¬ nI (b + s) = nI N := fun z => by have := (nI_eq (by omega) (by omega)).mp z; omega
    rw [fX6_firstFaultOfText_L60, if_neg t, if_neg t2, nI_add, if_pos (zq_in (show i + (b + s) < 60 by omega) (by decide)), zq_cl (show i + (b + s) < 2 ^ 31 by omega), hc (b + s) (by omega), zX_fit (by omega), zxB_s, zi_b, if_pos q2, nI_1, nI_1]
    exact ih (s + 1) f (by omega) (by omega)
/-- the reference's reading of a gallery, behind its letter -/
def zgR (x1 kd : Int32) (I : zxI) : Option (Int32 × zxI) :=
  (if zxIn ((4 : Int32) * (I 0 16)) 24 = true then
 (if ((zxU I 9 ((4 : Int32) * (I 0 16)).toNatClampNeg kd) 9 ((4 : Int32) * (I 0 16)).toNatClampNeg) = (-9 : Int32) then
 (some ((0 : Int32), (zxU I 9 ((4 : Int32) * (I 0 16)).toNatClampNeg kd))) else
 (zxB (fX7_digit x1 (0 : Int32) (9 : Int32) (zxU (zxU I 9 ((4 : Int32) * (I 0 16)).toNatClampNeg kd) 0 14 (((zxU I 9 ((4 : Int32) * (I 0 16)).toNatClampNeg kd) 0 14) + (1 : Int32)))) (fun (r_8 : Int32) (I_8 : zxI) =>
 (if zxIn (((4 : Int32) * (I 0 16)) + (1 : Int32)) 24 = true then
 (if ((zxU I_8 9 (((4 : Int32) * (I 0 16)) + (1 : Int32)).toNatClampNeg r_8) 9 (((4 : Int32) * (I 0 16)) + (1 : Int32)).toNatClampNeg) = (-9 : Int32) then
 (some ((0 : Int32), (zxU I_8 9 (((4 : Int32) * (I 0 16)) + (1 : Int32)).toNatClampNeg r_8))) else
 (zxB (fX7_digit x1 (1 : Int32) (9 : Int32) (zxU I_8 9 (((4 : Int32) * (I 0 16)) + (1 : Int32)).toNatClampNeg r_8)) (fun (r_12 : Int32) (I_12 : zxI) =>
 (if zxIn (((4 : Int32) * (I 0 16)) + (2 : Int32)) 24 = true then
 (if ((zxU I_12 9 (((4 : Int32) * (I 0 16)) + (2 : Int32)).toNatClampNeg r_12) 9 (((4 : Int32) * (I 0 16)) + (2 : Int32)).toNatClampNeg) = (-9 : Int32) then
 (some ((0 : Int32), (zxU I_12 9 (((4 : Int32) * (I 0 16)) + (2 : Int32)).toNatClampNeg r_12))) else
 (zxB (fX7_digit x1 (0 : Int32) (1 : Int32) (zxU I_12 9 (((4 : Int32) * (I 0 16)) + (2 : Int32)).toNatClampNeg r_12)) (fun (r_16 : Int32) (I_16 : zxI) =>
 (if zxIn (((4 : Int32) * (I 0 16)) + (3 : Int32)) 24 = true then
 (if ((zxU (zxU I_16 9 (((4 : Int32) * (I 0 16)) + (3 : Int32)).toNatClampNeg r_16) 0 16 (((zxU I_16 9 (((4 : Int32) * (I 0 16)) + (3 : Int32)).toNatClampNeg r_16) 0 16) + (1 : Int32))) 9 (((4 : Int32) * (I 0 16)) + (3 : Int32)).toNatClampNeg) = (-9 : Int32) then
 (some ((0 : Int32), (zxU (zxU I_16 9 (((4 : Int32) * (I 0 16)) + (3 : Int32)).toNatClampNeg r_16) 0 16 (((zxU I_16 9 (((4 : Int32) * (I 0 16)) + (3 : Int32)).toNatClampNeg r_16) 0 16) + (1 : Int32))))) else
 (some ((1 : Int32), (zxU (zxU I_16 9 (((4 : Int32) * (I 0 16)) + (3 : Int32)).toNatClampNeg r_16) 0 16 (((zxU I_16 9 (((4 : Int32) * (I 0 16)) + (3 : Int32)).toNatClampNeg r_16) 0 16) + (1 : Int32)))))) else none)))) else none)))) else none)))) else none)
theorem zgR_eq (x1 : Int32) (J : zxI) : fX7_readGallery x1 J = (if x1 ≤ J 0 14 then zgR x1 (-9) J else if zxIn (J 0 14) 240 = true then zgR x1 (zkl (J 3 (J 0 14).toNatClampNeg)) J else none) := by
  have e : fX7_readGallery x1 J = (if x1 ≤ J 0 14 then zgR x1 (-9) J else if zxIn (J 0 14) 240 = true then (if J 3 (J 0 14).toNatClampNeg = 103 then zgR x1 0 J else if J 3 (J 0 14).toNatClampNeg = 110 then zgR x1 1 J else if J 3 (J 0 14).toNatClampNeg = 98 then zgR x1 2 J else zgR x1 (-9) J) else none) := rfl
  rw [e]
  generalize J 3 (J 0 14).toNatClampNeg = x
  by_cases q0 : x1 ≤ J 0 14
  · rw [if_pos q0, if_pos q0]
  · rw [if_neg q0, if_neg q0]
    by_cases q : zxIn (J 0 14) 240 = true
    · rw [if_pos q, if_pos q]
      unfold zkl
      by_cases a : x = 103
      · subst a
        rfl
      · rw [if_neg a]
        by_cases b : x = 110
        · subst b
          rfl
        · rw [if_neg b]
          by_cases d : x = 98
          · subst d
            rfl
          · rw [if_neg d, if_neg d, if_neg a, if_neg b]
    · rw [if_neg q, if_neg q]
theorem zgR_s {J : zxI} {B N b g : Nat} {c : Nat → Int32} {kd : Int32} (h : zcM J B N c) (h14 : J 0 14 = nI (B + (b + 1))) (h16 : J 0 16 = nI g) (hg : g < 6) (hb : b + 1 < N) (hkd : ¬ kd = -9) : (∃ s J', 2 ≤ s ∧ s < 5 ∧ (∀ s', 2 ≤ s' → s' < s → zfs c N b s') ∧ ¬ zfs c N b s ∧ zgR (nI (B + N)) kd J = some (0, J') ∧ J' 0 14 = nI (B + (b + s)) ∧ b + s ≤ N ∧ zNf J J') ∨ (∃ J', (∀ s', 2 ≤ s' → s' < 5 → zfs c N b s') ∧ zgR (nI (B + N)) kd J = some (1, J') ∧ J' 0 14 = nI (B + (b + 5)) ∧ J' 0 16 = nI (g + 1) ∧ J' 0 15 = J 0 15 ∧ J' 8 = J 8 ∧ zNf J J' ∧ J' 9 (4 * g) = kd ∧ J' 9 (4 * g + 1) = c (b + 2) - 48 ∧ J' 9 (4 * g + 2) = c (b + 3) - 48 ∧ J' 9 (4 * g + 3) = c (b + 4) - 48 ∧ ∀ j, j < 4 * g → J' 9 j = J 9 j) := by
  have i0 : (4 : Int32) * nI g = nI (4 * g) := by rw [show (4 : Int32) = nI 4 from rfl, pk_mul]
  have i1 : nI (4 * g) + 1 = nI (4 * g + 1) := nI_1 _
  have i2 : nI (4 * g) + 2 = nI (4 * g + 2) := nI_add _ 2
  have i3 : nI (4 * g) + 3 = nI (4 * g + 3) := nI_add _ 3
  unfold zgR
  simp only [h16, i0, i1, i2, i3, zq_in (show 4 * g < 24 by omega) (show 24 < 2 ^ 31 by decide), zq_in (show 4 * g + 1 < 24 by omega) (show 24 < 2 ^ 31 by decide), zq_in (show 4 * g + 2 < 24 by omega) (show 24 < 2 ^ 31 by decide), zq_in (show 4 * g + 3 < 24 by omega) (show 24 < 2 ^ 31 by decide), if_true, zq_cl (show 4 * g < 2 ^ 31 by omega), zq_cl (show 4 * g + 1 < 2 ^ 31 by omega), zq_cl (show 4 * g + 2 < 2 ^ 31 by omega), zq_cl (show 4 * g + 3 < 2 ^ 31 by omega), zxU_s]
  rw [if_neg hkd]
  have e14 : (zxU J 9 (4 * g) kd) 0 14 + 1 = nI (B + (b + 2)) := by rw [zxU_q (by decide), h14, nI_1]; rfl
  rw [e14]
  obtain ⟨J2, hJ2⟩ : ∃ X, X = zxU (zxU J 9 (4 * g) kd) 0 14 (nI (B + (b + 2))) := ⟨_, rfl⟩
  rw [← hJ2]
  have f2 : zNf J J2 := by rw [hJ2]; exact zNf_t (zNf_q (Or.inr rfl)) (zNf_0 (Or.inl rfl))
  have a2 : J2 0 14 = nI (B + (b + 2)) := by rw [hJ2, zxU_s]
  have k2 : J2 0 15 = J 0 15 ∧ J2 0 16 = nI g ∧ J2 8 = J 8 ∧ J2 9 (4 * g) = kd ∧ ∀ j, j < 4 * g → J2 9 j = J 9 j := by
    rw [hJ2]
    refine ⟨by rw [zxU_k (by decide), zxU_q (by decide)], by rw [zxU_k (by decide), zxU_q (by decide)]; exact h16, by rw [zxU_q (by decide), zxU_q (by decide)], by rw [zxU_q (by decide), zxU_s], fun j hj => by rw [zxU_q (by decide), zxU_k (by omega)]⟩
  clear hJ2
  rw [zM_dgt (a := b + 2) (zcM_f h f2) a2 (by omega)]
  by_cases q2 : zfs c N b 2
  · have q2' := zfs2.mp q2
    rw [if_pos (show b + 2 < N ∧ ((48 : Int32) + 0 ≤ c (b + 2) ∧ c (b + 2) ≤ 48 + 9) from q2'), zxB_s, if_neg (zdg_n9 q2'.2)]
    obtain ⟨J3, hJ3⟩ : ∃ X, X = zxU (zxU J2 0 14 (nI (B + (b + 2) + 1))) 9 (4 * g + 1) (c (b + 2) - 48) := ⟨_, rfl⟩
    rw [← hJ3]
    have f3 : zNf J J3 := by rw [hJ3]; exact zNf_t f2 (zNf_t (zNf_0 (Or.inl rfl)) (zNf_q (Or.inr rfl)))
    have a3 : J3 0 14 = nI (B + (b + 3)) := by rw [hJ3, zxU_q (by decide), zxU_s]; rfl
    have k3 : J3 0 15 = J 0 15 ∧ J3 0 16 = nI g ∧ J3 8 = J 8 ∧ J3 9 (4 * g) = kd ∧ (∀ j, j < 4 * g → J3 9 j = J 9 j) ∧ J3 9 (4 * g + 1) = c (b + 2) - 48 := by
      obtain ⟨z1, z2, z3, z4, z5⟩ := k2
      rw [hJ3]
      refine ⟨by rw [zxU_q (by decide), zxU_k (by decide)]; exact z1, by rw [zxU_q (by decide), zxU_k (by decide)]; exact z2, by rw [zxU_q (by decide), zxU_q (by decide)]; exact z3, by rw [zxU_k (by omega), zxU_q (by decide)]; exact z4, fun j hj => by rw [zxU_k (by omega), zxU_q (by decide)]; exact z5 j hj, zxU_s⟩
    clear hJ3
    rw [zM_dgt (a := b + 3) (zcM_f h f3) a3 (by omega)]
    by_cases q3 : zfs c N b 3
    · have q3' := zfs3.mp q3
      have q3'' : 48 ≤ c (b + 3) ∧ c (b + 3) ≤ 57 := ⟨Int32.le_trans (by decide) q3'.2.1, q3'.2.2⟩
      rw [if_pos (show b + 3 < N ∧ ((48 : Int32) + 1 ≤ c (b + 3) ∧ c (b + 3) ≤ 48 + 9) from q3'), zxB_s, if_neg (zdg_n9 q3'')]
      obtain ⟨J4, hJ4⟩ : ∃ X, X = zxU (zxU J3 0 14 (nI (B + (b + 3) + 1))) 9 (4 * g + 2) (c (b + 3) - 48) := ⟨_, rfl⟩
      rw [← hJ4]
      have f4 : zNf J J4 := by rw [hJ4]; exact zNf_t f3 (zNf_t (zNf_0 (Or.inl rfl)) (zNf_q (Or.inr rfl)))
      have a4 : J4 0 14 = nI (B + (b + 4)) := by rw [hJ4, zxU_q (by decide), zxU_s]; rfl
      have k4 : J4 0 15 = J 0 15 ∧ J4 0 16 = nI g ∧ J4 8 = J 8 ∧ J4 9 (4 * g) = kd ∧ (∀ j, j < 4 * g → J4 9 j = J 9 j) ∧ J4 9 (4 * g + 1) = c (b + 2) - 48 ∧ J4 9 (4 * g + 2) = c (b + 3) - 48 := by
        obtain ⟨z1, z2, z3, z4, z5, z6⟩ := k3
        rw [hJ4]
        refine ⟨by rw [zxU_q (by decide), zxU_k (by decide)]; exact z1, by rw [zxU_q (by decide), zxU_k (by decide)]; exact z2, by rw [zxU_q (by decide), zxU_q (by decide)]; exact z3, by rw [zxU_k (by omega), zxU_q (by decide)]; exact z4, fun j hj => by rw [zxU_k (by omega), zxU_q (by decide)]; exact z5 j hj, by rw [zxU_k (by omega), zxU_q (by decide)]; exact z6, zxU_s⟩
      clear hJ4
      obtain ⟨z1, z2, z3, z4, z5, z6, z7⟩ := k4
      rw [zM_dgt (a := b + 4) (zcM_f h f4) a4 (by omega)]
      by_cases q4 : zfs c N b 4
      · have q4' := zfs4.mp q4
        have q4'' : 48 ≤ c (b + 4) ∧ c (b + 4) ≤ 57 := ⟨q4'.2.1, Int32.le_trans q4'.2.2 (by decide)⟩
        rw [if_pos (show b + 4 < N ∧ ((48 : Int32) + 0 ≤ c (b + 4) ∧ c (b + 4) ≤ 48 + 1) from q4'), zxB_s]
        rw [zxU_q (show 9 ≠ 0 by decide), zxU_s, if_neg (zdg_n9 q4''), zxU_q (show 0 ≠ 9 by decide), zxU_k (show 16 ≠ 14 by decide), z2, nI_1]
        refine Or.inr ⟨_, ?_, rfl, ?_, zxU_s, ?_, ?_, ?_, ?_, ?_, ?_, ?_, ?_⟩
        · intro s' h1 h2
          rcases (show s' = 2 ∨ s' = 3 ∨ s' = 4 by omega) with e | e | e <;> subst e
          · exact q2
          · exact q3
          · exact q4
        · rw [zxU_k (by decide), zxU_q (by decide), zxU_s]; rfl
        · rw [zxU_k (by decide), zxU_q (by decide), zxU_k (by decide)]; exact z1
        · rw [zxU_q (by decide), zxU_q (by decide), zxU_q (by decide)]; exact z3
        · exact zNf_t f4 (zNf_t (zNf_0 (Or.inl rfl)) (zNf_t (zNf_q (Or.inr rfl)) (zNf_0 (Or.inr (Or.inr rfl)))))
        · rw [zxU_q (by decide), zxU_k (by omega), zxU_q (by decide)]; exact z4
        · rw [zxU_q (by decide), zxU_k (by omega), zxU_q (by decide)]; exact z6
        · rw [zxU_q (by decide), zxU_k (by omega), zxU_q (by decide)]; exact z7
        · rw [zxU_q (by decide), zxU_s]
        · intro j hj
          rw [zxU_q (by decide), zxU_k (by omega), zxU_q (by decide)]; exact z5 j hj
      · have q4' : ¬ (b + 4 < N ∧ ((48 : Int32) + 0 ≤ c (b + 4) ∧ c (b + 4) ≤ 48 + 1)) := fun z => q4 (zfs4.mpr z)
        rw [if_neg q4', zxB_s, zxU_q (show 9 ≠ 0 by decide), zxU_s, if_pos (by decide : (-9 : Int32) = -9)]
        refine Or.inl ⟨4, _, by omega, by omega, ?_, q4, rfl, ?_, by omega, ?_⟩
        · intro s' h1 h2
          rcases (show s' = 2 ∨ s' = 3 by omega) with e | e <;> subst e
          · exact q2
          · exact q3
        · rw [zxU_k (by decide), zxU_q (by decide)]; exact a4
        · exact zNf_t f4 (zNf_t (zNf_q (Or.inr rfl)) (zNf_0 (Or.inr (Or.inr rfl))))
    · have q3' : ¬ (b + 3 < N ∧ ((48 : Int32) + 1 ≤ c (b + 3) ∧ c (b + 3) ≤ 48 + 9)) := fun z => q3 (zfs3.mpr z)
      rw [if_neg q3', zxB_s, if_pos (by decide : (-9 : Int32) = -9)]
      refine Or.inl ⟨3, _, by omega, by omega, ?_, q3, rfl, ?_, by omega, ?_⟩
      · intro s' h1 h2
        have e : s' = 2 := by omega
        subst e
        exact q2
      · rw [zxU_q (by decide)]; exact a3
      · exact zNf_t f3 (zNf_q (Or.inr rfl))
  · have q2' : ¬ (b + 2 < N ∧ ((48 : Int32) + 0 ≤ c (b + 2) ∧ c (b + 2) ≤ 48 + 9)) := fun z => q2 (zfs2.mpr z)
    rw [if_neg q2', zxB_s, if_pos (by decide : (-9 : Int32) = -9)]
    refine Or.inl ⟨2, _, by omega, by omega, fun s' h1 h2 => absurd h1 (by omega), q2, rfl, ?_, by omega, ?_⟩
    · rw [zxU_q (by decide)]; exact a2
    · exact zNf_t f2 (zNf_q (Or.inr rfl))
/-- a gallery's five codes, by the reference -/
theorem zM_gal {J : zxI} {B N b g : Nat} {c : Nat → Int32} {KK : zxI → Option (Int32 × zxI)} (h : zcM J B N c) (h14 : J 0 14 = nI (B + b)) (h16 : J 0 16 = nI g) (hg : g < 6) (hb : b ≤ N) : (∃ s J', s < 5 ∧ (∀ s', s' < s → zfs c N b s') ∧ ¬ zfs c N b s ∧ zxB (fX7_isSign (nI (B + N)) 59 J) (fun r_6 I_6 => if r_6 = 0 then some (0, I_6) else zxB (fX7_readGallery (nI (B + N)) I_6) (fun r_8 I_8 => if r_8 = 0 then some (0, I_8) else KK I_8)) = some (0, J') ∧ J' 0 14 = nI (B + (b + s)) ∧ b + s ≤ N ∧ zNf J J') ∨ (∃ J', (∀ s', s' < 5 → zfs c N b s') ∧ zxB (fX7_isSign (nI (B + N)) 59 J) (fun r_6 I_6 => if r_6 = 0 then some (0, I_6) else zxB (fX7_readGallery (nI (B + N)) I_6) (fun r_8 I_8 => if r_8 = 0 then some (0, I_8) else KK I_8)) = KK J' ∧ J' 0 14 = nI (B + (b + 5)) ∧ J' 0 16 = nI (g + 1) ∧ J' 0 15 = J 0 15 ∧ J' 8 = J 8 ∧ zNf J J' ∧ J' 9 (4 * g) = zkl (c (b + 1)) ∧ J' 9 (4 * g + 1) = c (b + 2) - 48 ∧ J' 9 (4 * g + 2) = c (b + 3) - 48 ∧ J' 9 (4 * g + 3) = c (b + 4) - 48 ∧ ∀ j, j < 4 * g → J' 9 j = J 9 j) := by
  have hB := h.1
  rw [zM_sg h h14 hb]
  by_cases q0 : zfs c N b 0
  · have q0' := zfs0.mp q0
    rw [if_pos q0', zxB_s, if_neg (by decide : ¬ (1 : Int32) = 0), zgR_eq]
    obtain ⟨J1, hJ1⟩ : ∃ X, X = zxU J 0 14 (nI (B + b + 1)) := ⟨_, rfl⟩
    rw [← hJ1]
    have f1 : zNf J J1 := by rw [hJ1]; exact zNf_0 (Or.inl rfl)
    have a1 : J1 0 14 = nI (B + (b + 1)) := by rw [hJ1, zxU_s]; rfl
    have k1 : J1 0 16 = nI g ∧ J1 0 15 = J 0 15 ∧ J1 8 = J 8 ∧ J1 9 = J 9 := by
      rw [hJ1]
      exact ⟨by rw [zxU_k (by decide)]; exact h16, by rw [zxU_k (by decide)], zxU_q (by decide), zxU_q (by decide)⟩
    clear hJ1
    obtain ⟨k1, k2, k3, k4⟩ := k1
    have i0 : (4 : Int32) * nI g = nI (4 * g) := by rw [show (4 : Int32) = nI 4 from rfl, pk_mul]
    have bad : ∀ (q1 : ¬ zfs c N b 1), ∃ s J', s < 5 ∧ (∀ s', s' < s → zfs c N b s') ∧ ¬ zfs c N b s ∧ zxB (zgR (nI (B + N)) (-9) J1) (fun r_8 I_8 => if r_8 = 0 then some (0, I_8) else KK I_8) = some (0, J') ∧ J' 0 14 = nI (B + (b + s)) ∧ b + s ≤ N ∧ zNf J J' := by
      intro q1
      refine ⟨1, zxU J1 9 (4 * g) (-9), by omega, fun s' hs' => by rw [show s' = 0 by omega]; exact q0, q1, ?_, by rw [zxU_q (by decide)]; exact a1, by omega, zNf_t f1 (zNf_q (Or.inr rfl))⟩
      unfold zgR
      rw [k1, i0, if_pos (zq_in (show 4 * g < 24 by omega) (by decide)), zq_cl (show 4 * g < 2 ^ 31 by omega), zxU_s, if_pos (by decide : (-9 : Int32) = -9), zxB_s, if_pos (by decide : (0 : Int32) = 0)]
    rw [a1]
    by_cases q : b + 1 < N
    · have t : ¬ nI (B + N) ≤ nI (B + (b + 1)) := nI_ge (by omega) (by omega)
      rw [if_neg t, if_pos (zq_in (show B + (b + 1) < 240 by omega) (by decide)), zq_cl (show B + (b + 1) < 2 ^ 31 by omega), (zcM_f h f1).2 (b + 1) q]
      by_cases q1 : zkl (c (b + 1)) = -9
      · rw [q1]
        exact Or.inl (bad (fun z => (zfs1.mp z).2 q1))
      · have q1' : zfs c N b 1 := zfs1.mpr ⟨q, q1⟩
        rcases zgR_s (zcM_f h f1) a1 k1 hg q q1 with ⟨s, J', y1, y2, y3, y4, y5, y6, y7, y8⟩ | ⟨J', y1, y2, y3, y4, y5, y6, y7, y8, y9, y10, y11, y12⟩
        · refine Or.inl ⟨s, J', y2, fun s' hs' => ?_, y4, by rw [y5, zxB_s, if_pos (by decide : (0 : Int32) = 0)], y6, y7, zNf_t f1 y8⟩
          by_cases e0 : s' = 0
          · subst e0; exact q0
          · by_cases e1 : s' = 1
            · subst e1; exact q1'
            · exact y3 s' (by omega) hs'
        · refine Or.inr ⟨J', fun s' hs' => ?_, by rw [y2, zxB_s, if_neg (by decide : ¬ (1 : Int32) = 0)], y3, y4, y5.trans k2, y6.trans k3, zNf_t f1 y7, y8, y9, y10, y11, fun j hj => by rw [y12 j hj, k4]⟩
          by_cases e0 : s' = 0
          · subst e0; exact q0
          · by_cases e1 : s' = 1
            · subst e1; exact q1'
            · exact y1 s' (by omega) hs'
    · have t : nI (B + N) ≤ nI (B + (b + 1)) := nI_le (by omega) (by omega)
      rw [if_pos t]
      exact Or.inl (bad (fun z => q (zfs1.mp z).1))
  · have q0' : ¬ (b < N ∧ c b = 59) := fun z => q0 (zfs0.mpr z)
    rw [if_neg q0', zxB_s, if_pos (by decide : (0 : Int32) = 0)]
    exact Or.inl ⟨0, J, by omega, fun s' hs' => absurd hs' (by omega), q0, rfl, h14, hb, zNf_r⟩
