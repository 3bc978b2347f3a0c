/-! orders: the lexicographic list -/
def zlxL (sub : Nat → List (List Nat)) (u : Nat) : Nat → Nat → List (List Nat)
  | 0, _ => []
  | k + 1, q => (if u.testBit q then [] else (sub q).map (fun l => q :: l)) ++ zlxL sub u k (q + 1)
def zlx (n : Nat) : Nat → Nat → List (List Nat)
  | 0, _ => [[]]
  | m + 1, u => zlxL (fun a => zlx n m (u ||| 2 ^ a)) u n 0
def zoE (n t : Nat) : Option (List Int32) := (fX7_orderOf (nI t) (nI n) zI00).map (fun I => (List.range n).map (I 11))
def zoC (n : Nat) : Nat → List (List Nat) → Bool
  | _, [] => true
  | t, l :: L => (zoE n t == some (l.map nI)) && zoC n (t + 1) L
theorem zoC_4 : zoC 4 0 (zlx 4 4 0) = true := by decide +kernel
theorem zoC_5 : zoC 5 0 (zlx 5 5 0) = true := by decide +kernel
theorem zoC_6 : zoC 6 0 (zlx 6 6 0) = true := by decide +kernel
theorem zoL_6 : (zlx 6 6 0).length = 720 := by decide +kernel
theorem zoL_0 : (zlx 0 0 0).length = 1 ∧ (zlx 1 1 0).length = 1 ∧ (zlx 2 2 0).length = 2 ∧ (zlx 3 3 0).length = 6 ∧ (zlx 4 4 0).length = 24 ∧ (zlx 5 5 0).length = 120 := by decide +kernel
theorem zoC_0 : zoC 0 0 (zlx 0 0 0) = true ∧ zoC 1 0 (zlx 1 1 0) = true ∧ zoC 2 0 (zlx 2 2 0) = true ∧ zoC 3 0 (zlx 3 3 0) = true := by decide +kernel
def zfact : Nat → Nat
  | 0 => 1
  | n + 1 => (n + 1) * zfact n
theorem zoL {n : Nat} (h : n ≤ 6) : (zlx n n 0).length = zfact n ∧ zfact n ≤ 720 ∧ zoC n 0 (zlx n n 0) = true := by
  rcases (show n = 0 ∨ n = 1 ∨ n = 2 ∨ n = 3 ∨ n = 4 ∨ n = 5 ∨ n = 6 by omega) with e | e | e | e | e | e | e <;> subst e
  · exact ⟨zoL_0.1, by decide, zoC_0.1⟩
  · exact ⟨zoL_0.2.1, by decide, zoC_0.2.1⟩
  · exact ⟨zoL_0.2.2.1, by decide, zoC_0.2.2.1⟩
  · exact ⟨zoL_0.2.2.2.1, by decide, zoC_0.2.2.2⟩
  · exact ⟨zoL_0.2.2.2.2.1, by decide, zoC_4⟩
  · exact ⟨zoL_0.2.2.2.2.2, by decide, zoC_5⟩
  · exact ⟨zoL_6, by decide, zoC_6⟩
theorem zoC_at {n : Nat} : ∀ (L : List (List Nat)) (t i : Nat) (l : List Nat), zoC n t L = true → L[i]? = some l → zoE n (t + i) = some (l.map nI) := by
  intro L
  induction L with
  | nil => intro t i l _ h; cases h
  | cons a L ih =>
    intro t i l h hi
    unfold zoC at h
    rw [Bool.and_eq_true] at h
    cases i with
    | zero =>
      have e : a = l := Option.some.inj hi
      subst e
      exact eq_of_beq h.1
    | succ i =>
      have := ih (t + 1) i l h.2 hi
      rw [show t + (i + 1) = t + 1 + i by omega]
      exact this
theorem zM_isOf (x0 x1 : Int32) (I : zxI) : fX7_isOf x0 x1 I = some (if ((x0 >>> (x1 &&& 31)) &&& 1) = 1 then 1 else 0, I) := by
  unfold fX7_isOf
  by_cases c : ((x0 >>> (x1 &&& 31)) &&& 1) = 1
  · rw [if_pos c, if_pos c]
  · rw [if_neg c, if_neg c]
def zoO (n : Nat) (J : zxI) (a b : Option zxI) : Prop := (a = none ∧ b = none) ∨ ∃ T T0, a = some T ∧ b = some T0 ∧ (∀ k, k < n → T 11 k = T0 11 k) ∧ ∀ q, q ≠ 11 → T q = J q
theorem zo_53 {n p : Nat} {J : zxI} {kk kk0 : Int32 → Int32 → Int32 → Int32 → Int32 → zxI → Option zxI} {v2 v3 : Int32} (hp : p < 6) (hkk : ∀ a2 a3 J' J0', (∀ k, k < p + 1 → J' 11 k = J0' 11 k) → (∀ q, q ≠ 11 → J' q = J q) → zoO n J (kk v2 v3 a2 a3 (nI (p + 1)) J') (kk0 v2 v3 a2 a3 (nI (p + 1)) J0')) : ∀ (f : Nat) (v4 v5 v7 v8 : Int32) (J' J0' : zxI), (∀ k, k < p → J' 11 k = J0' 11 k) → (∀ q, q ≠ 11 → J' q = J q) → zoO n J (fX7_orderOf_L53 kk f v2 v3 v4 v5 (nI p) v7 v8 J') (fX7_orderOf_L53 kk0 f v2 v3 v4 v5 (nI p) v7 v8 J0') := by
  intro f
  induction f with
  | zero => intro v4 v5 v7 v8 J' J0' _ _; exact Or.inl ⟨rfl, rfl⟩
  | succ f ih =>
    intro v4 v5 v7 v8 J' J0' h1 h2
    rw [fX7_orderOf_L53, fX7_orderOf_L53]
    simp only [zM_isOf, zxB_s, zi_b, zq_in hp (show 6 < 2 ^ 31 by decide), if_true, zq_cl (show p < 2 ^ 31 by omega), nI_1]
    have hw : (∀ k, k < p + 1 → (zxU J' 11 p v8) 11 k = (zxU J0' 11 p v8) 11 k) ∧ (∀ q, q ≠ 11 → (zxU J' 11 p v8) q = J q) := by
      constructor
      · intro k hk
        by_cases e : k = p
        · subst e
          rw [zxU_s, zxU_s]
        · rw [zxU_k e, zxU_k e]; exact h1 k (by omega)
      · intro q hq
        rw [zxU_q hq]; exact h2 q hq
    by_cases c : ((v5 >>> (v8 &&& 31)) &&& 1) = 1
    · simp only [if_pos c]
      exact ih _ _ _ _ _ _ h1 h2
    · simp only [if_neg c]
      by_cases c2 : v7 ≤ 0
      · rw [if_pos c2, if_pos c2]
        by_cases c3 : v2 - nI p - 1 ≤ 1
        · rw [if_pos c3, if_pos c3]
          exact hkk _ _ _ _ hw.1 hw.2
        · rw [if_neg c3, if_neg c3]
          by_cases c4 : ¬ v2 - nI p - 1 = 0
          · rw [if_pos c4, if_pos c4]
            exact hkk _ _ _ _ hw.1 hw.2
          · rw [if_neg c4, if_neg c4]
            exact Or.inl ⟨rfl, rfl⟩
      · rw [if_neg c2, if_neg c2]
        exact ih _ _ _ _ _ _ h1 h2
theorem zo_33 {n : Nat} {J : zxI} (hn : n ≤ 6) : ∀ (f p : Nat) (v3 v4 v5 : Int32) (J' J0' : zxI), p ≤ n → (∀ k, k < p → J' 11 k = J0' 11 k) → (∀ q, q ≠ 11 → J' q = J q) → zoO n J (fX7_orderOf_L33 f (nI n) v3 v4 v5 (nI p) J') (fX7_orderOf_L33 f (nI n) v3 v4 v5 (nI p) J0') := by
  intro f
  induction f with
  | zero => intro p v3 v4 v5 J' J0' _ _ _; exact Or.inl ⟨rfl, rfl⟩
  | succ f ih =>
    intro p v3 v4 v5 J' J0' hp h1 h2
    rw [fX7_orderOf_L33, fX7_orderOf_L33]
    by_cases c : nI n ≤ nI p
    · rw [if_pos c, if_pos c]
      have := (nI_leI (by omega) (by omega)).mp c
      exact Or.inr ⟨J', J0', rfl, rfl, fun k hk => h1 k (by omega), h2⟩
    · rw [if_neg c, if_neg c]
      have hpn : p < n := by
        have : ¬ n ≤ p := fun z => c ((nI_leI (a := n) (b := p) (by omega) (by omega)).mpr z)
        omega
      by_cases c2 : ¬ v4 = 0
      · rw [if_pos c2, if_pos c2]
        exact zo_53 (by omega) (fun a2 a3 J1 J2 h3 h4 => ih (p + 1) _ a2 a3 J1 J2 hpn h3 h4) 1000 v4 v5 _ 0 J' J0' h1 h2
      · rw [if_neg c2, if_neg c2]
        exact Or.inl ⟨rfl, rfl⟩
theorem zo_8 {n : Nat} {J : zxI} (hn : n ≤ 6) : ∀ (f : Nat) (v3 v4 v5 : Int32) (J0 : zxI), zoO n J (fX7_orderOf_L8 f (nI n) v3 v4 v5 J) (fX7_orderOf_L8 f (nI n) v3 v4 v5 J0) := by
  intro f
  induction f with
  | zero => intro v3 v4 v5 J0; exact Or.inl ⟨rfl, rfl⟩
  | succ f ih =>
    intro v3 v4 v5 J0
    rw [fX7_orderOf_L8, fX7_orderOf_L8]
    by_cases c : nI n ≤ v5
    · rw [if_pos c, if_pos c]
      exact zo_33 hn 1000 0 v3 v4 0 J J0 (by omega) (fun k hk => absurd hk (by omega)) (fun _ _ => rfl)
    · rw [if_neg c, if_neg c]
      exact ih _ _ _ J0
theorem zM_ord {n t : Nat} {l : List Nat} (hn : n ≤ 6) (hl : (zlx n n 0)[t]? = some l) (J : zxI) : ∃ T, fX7_orderOf (nI t) (nI n) J = some T ∧ l.length = n ∧ (∀ q, q ≠ 11 → T q = J q) ∧ ∀ k, k < n → ∃ a, l[k]? = some a ∧ T 11 k = nI a := by
  have h := zoC_at (n := n) _ 0 t l (zoL hn).2.2 hl
  rw [Nat.zero_add] at h
  unfold zoE at h
  rcases zo_8 (J := J) hn 1000 (nI t) 1 2 zI00 with ⟨e1, e2⟩ | ⟨T, T0, e1, e2, e3, e4⟩
  · have e2' : fX7_orderOf (nI t) (nI n) zI00 = none := e2
    rw [e2'] at h
    cases h
  · have e2' : fX7_orderOf (nI t) (nI n) zI00 = some T0 := e2
    rw [e2'] at h
    have h' : (List.range n).map (T0 11) = l.map nI := Option.some.inj h
    have hlen : l.length = n := by
      have := congrArg List.length h'
      simp at this
      exact this.symm
    refine ⟨T, e1, hlen, e4, fun k hk => ?_⟩
    have h3 := congrArg (fun z => z[k]?) h'
    simp only [List.getElem?_map, List.getElem?_range hk, Option.map_some] at h3
    cases e : l[k]? with
    | none => rw [e] at h3; cases h3
    | some a =>
      rw [e] at h3
      exact ⟨a, rfl, (e3 k hk).trans (Option.some.inj h3)⟩
theorem zM_ords {n : Nat} (hn : n ≤ 6) (J : zxI) : fX7_ordersOf (nI n) J = some (nI (zfact n), J) := by
  rcases (show n = 0 ∨ n = 1 ∨ n = 2 ∨ n = 3 ∨ n = 4 ∨ n = 5 ∨ n = 6 by omega) with e | e | e | e | e | e | e <;> subst e <;> rfl
