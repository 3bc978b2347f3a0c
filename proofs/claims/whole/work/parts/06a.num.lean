/-! numbers and rows -/
theorem zq_in {k n : Nat} (h : k < n) (hn : n < 2 ^ 31) : zxIn (nI k) n = true := decide_eq_true (vp_in_nI h hn)
theorem zq_cl {k : Nat} (h : k < 2 ^ 31) : (nI k).toNatClampNeg = k := nI_clamp h
def zSR (I : zxI) (q : Nat) (f : Nat → Int32) : zxI := fun q' => if q' = q then f else I q'
theorem zSR_U {I : zxI} {q k : Nat} {v : Int32} : zxU I q k v = zSR I q (upd (I q) k v) := by
  funext q' j
  by_cases h : q' = q
  · subst h
    simp [zxU, zSR, upd]
  · simp [zxU, zSR, h]
theorem zSR_s {I : zxI} {q : Nat} {f : Nat → Int32} : zSR I q f q = f := by simp [zSR]
theorem zSR_n {I : zxI} {q q' : Nat} {f : Nat → Int32} (h : q' ≠ q) : zSR I q f q' = I q' := by simp [zSR, h]
theorem zSR_SR {I : zxI} {q : Nat} {f g : Nat → Int32} : zSR (zSR I q f) q g = zSR I q g := by
  funext q'
  by_cases h : q' = q <;> simp [zSR, h]
theorem zSR_id {I : zxI} {q : Nat} : zSR I q (I q) = I := by
  funext q'
  by_cases h : q' = q <;> simp [zSR, h]
theorem zSR_cm {I : zxI} {q p : Nat} {f g : Nat → Int32} (h : q ≠ p) : zSR (zSR I q f) p g = zSR (zSR I p g) q f := by
  funext x
  by_cases h1 : x = p
  · subst h1
    simp [zSR, Ne.symm h]
  · by_cases h2 : x = q
    · subst h2
      simp [zSR, h]
    · simp [zSR, h1, h2]
theorem zSR_C {I : zxI} {q0 q1 sp dp n : Nat} : zxC I q0 q1 sp dp n = zSR I q1 (va_cpy (I q0) (I q1) sp dp n) := by
  funext q'
  by_cases h : q' = q1 <;> simp [zxC, zSR, h]
theorem zxU_s {I : zxI} {q k : Nat} {v : Int32} : zxU I q k v q k = v := by simp [zxU]
theorem zxU_k {I : zxI} {q k j : Nat} {v : Int32} (h : j ≠ k) : zxU I q k v q j = I q j := by simp [zxU, h]
theorem zxU_q {I : zxI} {q k q' : Nat} {v : Int32} (h : q' ≠ q) : zxU I q k v q' = I q' := zxU_ne h
theorem upd_s {f : Nat → Int32} {k : Nat} {v : Int32} : upd f k v k = v := by simp [upd]
theorem upd_n {f : Nat → Int32} {k j : Nat} {v : Int32} (h : j ≠ k) : upd f k v j = f j := by simp [upd, h]
theorem upd_id {f : Nat → Int32} {k : Nat} : upd f k (f k) = f := by
  funext j
  by_cases h : j = k <;> simp [upd, h]
/-- a row of fouls -/
def zF (f : Nat → Int32) : Prop := ∀ g : Nat, g < 6 → ∃ v : Nat, v < 41 ∧ f g = nI v
theorem zF_up {f : Nat → Int32} {k v : Nat} (h : zF f) (hv : v < 41) : zF (upd f k (nI v)) := by
  intro g hg
  by_cases e : g = k
  · subst e
    exact ⟨v, hv, upd_s⟩
  · rw [upd_n e]
    exact h g hg
theorem zq_gm {G k : Nat} (h : G ≤ k + 1) (hk : k < 2 ^ 30) : nI G - 1 ≤ nI k := by
  rw [Int32.le_iff_toInt_le, nI_toInt (by omega)]
  cases G with
  | zero =>
    have e : (nI 0 - 1 : Int32).toInt = -1 := by decide
    rw [e]
    omega
  | succ G =>
    rw [nI_pred, nI_toInt (by omega)]
    omega
theorem zq_gn {G k : Nat} (h : k + 1 < G) (hG : G < 2 ^ 30) : ¬ nI G - 1 ≤ nI k := by
  cases G with
  | zero => omega
  | succ G =>
    rw [nI_pred, nI_leI (by omega) (by omega)]
    omega
theorem zq_ab : ∀ u, u < 41 → ∀ v, v < 41 → ((if 0 ≤ nI u - nI v then nI u - nI v else 0 - (nI u - nI v)) < 2 ↔ ¬ (1 < nI u - nI v ∨ nI u - nI v < -1)) := by decide +kernel
theorem zq_mv0 : ∀ u, u < 41 → ∀ v, v < 41 → (¬ (1 < nI u - nI v ∨ nI u - nI v < -1)) ∨ (0 < nI u - nI v ∧ nI u - 1 = nI (u - 1) ∧ nI v + 1 = nI (v + 1) ∧ v + 1 < 41) ∨ (¬ 0 < nI u - nI v ∧ nI u - (-1) = nI (u + 1) ∧ nI v + (-1) = nI (v - 1) ∧ u + 1 < 41) := by decide +kernel
theorem zq_mv (u : Nat) (hu : u < 41) (v : Nat) (hv : v < 41) (h : 1 < nI u - nI v ∨ nI u - nI v < -1) : (0 < nI u - nI v → nI u - 1 = nI (u - 1) ∧ nI v + 1 = nI (v + 1) ∧ v + 1 < 41) ∧ (¬ 0 < nI u - nI v → nI u - (-1) = nI (u + 1) ∧ nI v + (-1) = nI (v - 1) ∧ u + 1 < 41) := by
  rcases zq_mv0 u hu v hv with q | q | q
  · exact absurd h q
  · exact ⟨fun _ => q.2, fun z => absurd q.1 z⟩
  · exact ⟨fun z => absurd z q.1, fun _ => q.2⟩
/-- air passes: m doors from the door k on; how many it passes through -/
def zps (dr : Int32) : Nat → Nat → (Nat → Int32) → Int32 → (Nat → Int32) × Int32
  | 0, _, f, c => (f, c)
  | m + 1, k, f, c => if ((dr >>> (nI k &&& 31)) &&& 1) = 1 ∧ (1 < f k - f (k + 1) ∨ f k - f (k + 1) < -1) then
      (if 0 < f k - f (k + 1) then zps dr m (k + 1) (upd (upd f k (f k - 1)) (k + 1) (f (k + 1) + 1)) (c + 1)
       else zps dr m (k + 1) (upd (upd f k (f k - (-1))) (k + 1) (f (k + 1) + (-1))) (c + 1))
    else zps dr m (k + 1) f c
theorem zps_F (dr : Int32) : ∀ (m k : Nat) (f : Nat → Int32) (c : Int32), k + m ≤ 5 → zF f → zF (zps dr m k f c).1 := by
  intro m
  induction m with
  | zero => intro k f c _ h; exact h
  | succ m ih =>
    intro k f c hk h
    obtain ⟨u, hu, eu⟩ := h k (by omega)
    obtain ⟨v, hv, ev⟩ := h (k + 1) (by omega)
    unfold zps
    by_cases c1 : ((dr >>> (nI k &&& 31)) &&& 1) = 1 ∧ (1 < f k - f (k + 1) ∨ f k - f (k + 1) < -1)
    · rw [if_pos c1]
      have hm := zq_mv u hu v hv (by rw [← eu, ← ev]; exact c1.2)
      by_cases c2 : 0 < f k - f (k + 1)
      · rw [if_pos c2]
        rw [eu, ev] at c2
        have hm := hm.1 c2
        refine ih _ _ _ (by omega) ?_
        rw [eu, ev, hm.1, hm.2.1]
        exact zF_up (zF_up h (by omega)) hm.2.2
      · rw [if_neg c2]
        rw [eu, ev] at c2
        have hm := hm.2 c2
        refine ih _ _ _ (by omega) ?_
        rw [eu, ev, hm.1, hm.2.1]
        exact zF_up (zF_up h hm.2.2) (by omega)
    · rw [if_neg c1]
      exact ih _ _ _ (by omega) h
/-- two rows that agree below 6 -/
def zE6 (f g : Nat → Int32) : Prop := ∀ k : Nat, k < 6 → f k = g k
theorem zE6_up {f g : Nat → Int32} (h : zE6 f g) (k : Nat) (v : Int32) : zE6 (upd f k v) (upd g k v) := by
  intro j hj
  by_cases e : j = k
  · subst e
    rw [upd_s, upd_s]
  · rw [upd_n e, upd_n e]
    exact h j hj
theorem zps_E (dr : Int32) : ∀ (m k : Nat) (f g : Nat → Int32) (c : Int32), k + m ≤ 5 → zE6 f g → zE6 (zps dr m k f c).1 (zps dr m k g c).1 ∧ (zps dr m k f c).2 = (zps dr m k g c).2 := by
  intro m
  induction m with
  | zero => intro k f g c _ h; exact ⟨h, rfl⟩
  | succ m ih =>
    intro k f g c hk h
    unfold zps
    rw [h k (by omega), h (k + 1) (by omega)]
    by_cases c1 : ((dr >>> (nI k &&& 31)) &&& 1) = 1 ∧ (1 < g k - g (k + 1) ∨ g k - g (k + 1) < -1)
    · rw [if_pos c1, if_pos c1]
      by_cases c2 : 0 < g k - g (k + 1)
      · rw [if_pos c2, if_pos c2]
        exact ih _ _ _ _ (by omega) (zE6_up (zE6_up h _ _) _ _)
      · rw [if_neg c2, if_neg c2]
        exact ih _ _ _ _ (by omega) (zE6_up (zE6_up h _ _) _ _)
    · rw [if_neg c1, if_neg c1]
      exact ih _ _ _ _ (by omega) h
/-- what a bird bears -/
def zbe (kd st : Int32) : Int32 := if kd = 1 then st - 1 else if kd = 2 then 2 * st else st
/-- which birds drop: m galleries from k on -/
def zds (f ks ss : Nat → Int32) (d : Int32) : Nat → Nat → Int32 → Int32
  | 0, _, a => a
  | m + 1, k, a => zds f ks ss d m (k + 1) (if ((d >>> (nI k &&& 31)) &&& 1) = 1 then a else if f k ≤ zbe (ks k) (ss k) then a else a ||| (1 <<< (nI k &&& 31)))
theorem zds_E (ks ss : Nat → Int32) (d : Int32) : ∀ (m k : Nat) (f g : Nat → Int32) (a : Int32), k + m ≤ 6 → zE6 f g → zds f ks ss d m k a = zds g ks ss d m k a := by
  intro m
  induction m with
  | zero => intro k f g a _ h; rfl
  | succ m ih =>
    intro k f g a hk h
    unfold zds
    rw [h k (by omega)]
    exact ih _ _ _ _ (by omega) h
/-- a word is said: how foul it is then -/
def zcl (x : Int32) : Int32 := if x < 0 then 0 else if 40 < x then 40 else x
theorem zcl_X (x : Int32) : (if 0 < (if x < 40 then x else 40) then (if x < 40 then x else 40) else 0) = zcl x := by
  unfold zcl
  have e0 : (0 : Int32).toInt = 0 := rfl
  have e4 : (40 : Int32).toInt = 40 := rfl
  repeat' split
  all_goals first
    | rfl
    | (exfalso; simp only [Int32.lt_iff_toInt_lt, e0, e4] at *; omega)
    | (apply Int32.toInt_inj.mp; simp only [Int32.lt_iff_toInt_lt, e0, e4] at *; omega)
theorem zcl_F : ∀ u, u < 41 → ∀ v, v < 10 → ∃ w, w < 41 ∧ zcl (nI u + nI v - 4) = nI w := by
  have h : ∀ u, u < 41 → ∀ v, v < 10 → zcl (nI u + nI v - 4) = nI (min 40 (u + v - 4)) := by decide +kernel
  exact fun u hu v hv => ⟨min 40 (u + v - 4), by omega, h u hu v hv⟩
