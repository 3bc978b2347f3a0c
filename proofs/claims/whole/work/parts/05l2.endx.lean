set_option maxHeartbeats 8000000 in
set_option maxRecDepth 100000 in
theorem zi_endX {D : va_G} {cA : Nat → ClassId} {A : Nat → Prop} {H : Heap} {h0 q0 q1 q2 q3 q4 q5 q6 q7 q8 q9 q10 q11 q12 q13 q14 q15 q16 q17 q18 q19 q20 q21 q22 q23 q24 q25 q26 q27 q28 q29 q30 q31 q32 q33 q34 q35 q36 q37 q38 q39 q40 : Nat} (hP : va_P D vwCl [(h0, .inr (6, [.ref q0, .ref q1, .ref q5, .ref q7, .ref q11, .ref q14, .ref q15, .ref q16, .int 0, .int 0, .int 0])), (q0, .inl (cA 1, 4, .inr (.inr (.inr (.inr (va_up (va_up (va_up (va_up (fun _ => none) 0 (some q19)) 1 (some q21)) 2 (some q23)) 3 (some q25))))))), (q1, .inr (2, [.int 0, .int 0, .ref q2, .ref q3, .ref q4, .int 0])), (q2, .inl (cA 0, 4, .inl (fun _ => 0))), (q3, .inl (cA 0, 6, .inl (fun _ => 0))), (q4, .inl (cA 0, 6, .inl (fun _ => 0))), (q5, .inr (0, [.ref q6, .int 0])), (q6, .inl (cA 0, 6, .inl (fun _ => 0))), (q7, .inr (3, [.int 0, .ref q8, .ref q9, .ref q10])), (q8, .inl (cA 0, 8, .inl (fun _ => 0))), (q9, .inl (cA 0, 8, .inl (fun _ => 0))), (q10, .inl (cA 0, 8, .inl (fun _ => 0))), (q11, .inr (1, [.int 0, .ref q12, .ref q13])), (q12, .inl (cA 0, 20, .inl (fun _ => 0))), (q13, .inl (cA 0, 20, .inl (fun _ => 0))), (q14, .inl (cA 2, 7, .inr (.inr (.inr (.inr (va_up (va_up (va_up (va_up (va_up (va_up (va_up (fun _ => none) 0 (some q27)) 1 (some q29)) 2 (some q31)) 3 (some q33)) 4 (some q35)) 5 (some q37)) 6 (some q39))))))), (q15, .inl (cA 0, 6, .inl (fun _ => 0))), (q16, .inr (4, [.ref q17, .ref q18, .int (-1 : Int32)])), (q17, .inl (cA 0, 6, .inl (fun _ => 0))), (q18, .inl (cA 0, 6, .inl (fun _ => 0))), (q19, .inr (5, [.int 0, .int 0, .ref q20, .int 0])), (q20, .inl (cA 0, 60, .inl (fun _ => 0))), (q21, .inr (5, [.int 0, .int 0, .ref q22, .int 0])), (q22, .inl (cA 0, 60, .inl (fun _ => 0))), (q23, .inr (5, [.int 0, .int 0, .ref q24, .int 0])), (q24, .inl (cA 0, 60, .inl (fun _ => 0))), (q25, .inr (5, [.int 0, .int 0, .ref q26, .int 0])), (q26, .inl (cA 0, 60, .inl (fun _ => 0))), (q27, .inr (0, [.ref q28, .int 0])), (q28, .inl (cA 0, 6, .inl (fun _ => 0))), (q29, .inr (0, [.ref q30, .int 0])), (q30, .inl (cA 0, 6, .inl (fun _ => 0))), (q31, .inr (0, [.ref q32, .int 0])), (q32, .inl (cA 0, 6, .inl (fun _ => 0))), (q33, .inr (0, [.ref q34, .int 0])), (q34, .inl (cA 0, 6, .inl (fun _ => 0))), (q35, .inr (0, [.ref q36, .int 0])), (q36, .inl (cA 0, 6, .inl (fun _ => 0))), (q37, .inr (0, [.ref q38, .int 0])), (q38, .inl (cA 0, 6, .inl (fun _ => 0))), (q39, .inr (0, [.ref q40, .int 0])), (q40, .inl (cA 0, 6, .inl (fun _ => 0)))] H) (hD : va_D A [(h0, .inr (6, [.ref q0, .ref q1, .ref q5, .ref q7, .ref q11, .ref q14, .ref q15, .ref q16, .int 0, .int 0, .int 0])), (q0, .inl (cA 1, 4, .inr (.inr (.inr (.inr (va_up (va_up (va_up (va_up (fun _ => none) 0 (some q19)) 1 (some q21)) 2 (some q23)) 3 (some q25))))))), (q1, .inr (2, [.int 0, .int 0, .ref q2, .ref q3, .ref q4, .int 0])), (q2, .inl (cA 0, 4, .inl (fun _ => 0))), (q3, .inl (cA 0, 6, .inl (fun _ => 0))), (q4, .inl (cA 0, 6, .inl (fun _ => 0))), (q5, .inr (0, [.ref q6, .int 0])), (q6, .inl (cA 0, 6, .inl (fun _ => 0))), (q7, .inr (3, [.int 0, .ref q8, .ref q9, .ref q10])), (q8, .inl (cA 0, 8, .inl (fun _ => 0))), (q9, .inl (cA 0, 8, .inl (fun _ => 0))), (q10, .inl (cA 0, 8, .inl (fun _ => 0))), (q11, .inr (1, [.int 0, .ref q12, .ref q13])), (q12, .inl (cA 0, 20, .inl (fun _ => 0))), (q13, .inl (cA 0, 20, .inl (fun _ => 0))), (q14, .inl (cA 2, 7, .inr (.inr (.inr (.inr (va_up (va_up (va_up (va_up (va_up (va_up (va_up (fun _ => none) 0 (some q27)) 1 (some q29)) 2 (some q31)) 3 (some q33)) 4 (some q35)) 5 (some q37)) 6 (some q39))))))), (q15, .inl (cA 0, 6, .inl (fun _ => 0))), (q16, .inr (4, [.ref q17, .ref q18, .int (-1 : Int32)])), (q17, .inl (cA 0, 6, .inl (fun _ => 0))), (q18, .inl (cA 0, 6, .inl (fun _ => 0))), (q19, .inr (5, [.int 0, .int 0, .ref q20, .int 0])), (q20, .inl (cA 0, 60, .inl (fun _ => 0))), (q21, .inr (5, [.int 0, .int 0, .ref q22, .int 0])), (q22, .inl (cA 0, 60, .inl (fun _ => 0))), (q23, .inr (5, [.int 0, .int 0, .ref q24, .int 0])), (q24, .inl (cA 0, 60, .inl (fun _ => 0))), (q25, .inr (5, [.int 0, .int 0, .ref q26, .int 0])), (q26, .inl (cA 0, 60, .inl (fun _ => 0))), (q27, .inr (0, [.ref q28, .int 0])), (q28, .inl (cA 0, 6, .inl (fun _ => 0))), (q29, .inr (0, [.ref q30, .int 0])), (q30, .inl (cA 0, 6, .inl (fun _ => 0))), (q31, .inr (0, [.ref q32, .int 0])), (q32, .inl (cA 0, 6, .inl (fun _ => 0))), (q33, .inr (0, [.ref q34, .int 0])), (q34, .inl (cA 0, 6, .inl (fun _ => 0))), (q35, .inr (0, [.ref q36, .int 0])), (q36, .inl (cA 0, 6, .inl (fun _ => 0))), (q37, .inr (0, [.ref q38, .int 0])), (q38, .inl (cA 0, 6, .inl (fun _ => 0))), (q39, .inr (0, [.ref q40, .int 0])), (q40, .inl (cA 0, 6, .inl (fun _ => 0)))]) : ∃ ad : Nat → Nat, ad 0 = h0 ∧ va_P D vwCl (zxW shX ad cA zI0) H ∧ va_D A (zxW shX ad cA zI0) := by
  obtain ⟨ad, had⟩ : ∃ ad : Nat → Nat, ad = (fun q : Nat => ([h0, q0, q19, q20, q21, q22, q23, q24, q25, q26, q1, q2, q3, q4, q5, q6, q27, q28, q29, q30, q31, q32, q33, q34, q35, q36, q37, q38, q39, q40, q14, q7, q8, q9, q10, q11, q12, q13, q15, q16, q17, q18] : List Nat).getD q 0) := ⟨_, rfl⟩
  have hf1 : ∀ j, j < 4 → (va_up (va_up (va_up (va_up (fun _ => none) 0 (some q19)) 1 (some q21)) 2 (some q23)) 3 (some q25)) j = (([2, 4, 6, 8] : List Nat)[j]?).map ad := by
    intro j hj
    subst had
    rcases (show j = 0 ∨ j = 1 ∨ j = 2 ∨ j = 3 by omega) with rfl | rfl | rfl | rfl <;> rfl
  have hf30 : ∀ j, j < 7 → (va_up (va_up (va_up (va_up (va_up (va_up (va_up (fun _ => none) 0 (some q27)) 1 (some q29)) 2 (some q31)) 3 (some q33)) 4 (some q35)) 5 (some q37)) 6 (some q39)) j = (([16, 18, 20, 22, 24, 26, 28] : List Nat)[j]?).map ad := by
    intro j hj
    subst had
    rcases (show j = 0 ∨ j = 1 ∨ j = 2 ∨ j = 3 ∨ j = 4 ∨ j = 5 ∨ j = 6 by omega) with rfl | rfl | rfl | rfl | rfl | rfl | rfl <;> rfl
  have hP9 : va_P D vwCl (zxW shX ad cA zI0) H := by
    have h0 : ∀ k : Nat, k < 42 → ∀ sh : zxS, shX[k]? = some sh → va_at D vwCl (ad k, zxE ad cA (zI0 k) sh) H := by
      subst had
      refine lt_s (lt_s (lt_s (lt_s (lt_s (lt_s (lt_s (lt_s (lt_s (lt_s (lt_s (lt_s (lt_s (lt_s (lt_s (lt_s (lt_s (lt_s (lt_s (lt_s (lt_s (lt_s (lt_s (lt_s (lt_s (lt_s (lt_s (lt_s (lt_s (lt_s (lt_s (lt_s (lt_s (lt_s (lt_s (lt_s (lt_s (lt_s (lt_s (lt_s (lt_s (lt_s (lt_0) ?_) ?_) ?_) ?_) ?_) ?_) ?_) ?_) ?_) ?_) ?_) ?_) ?_) ?_) ?_) ?_) ?_) ?_) ?_) ?_) ?_) ?_) ?_) ?_) ?_) ?_) ?_) ?_) ?_) ?_) ?_) ?_) ?_) ?_) ?_) ?_) ?_) ?_) ?_) ?_) ?_) ?_
      · intro sh hk
        cases hk
        rw [zI0_n (show 0 ≠ 39 by decide)]
        simp only [zxE, zxSl, List.mapIdx_cons, List.mapIdx_nil, Nat.zero_add]
        exact hP 0 _ rfl
      · intro sh hk
        cases hk
        rw [zI0_n (show 1 ≠ 39 by decide)]
        exact zi_rf (hP 1 _ rfl) hf1
      · intro sh hk
        cases hk
        rw [zI0_n (show 2 ≠ 39 by decide)]
        simp only [zxE, zxSl, List.mapIdx_cons, List.mapIdx_nil, Nat.zero_add]
        exact hP 20 _ rfl
      · intro sh hk
        cases hk
        rw [zI0_n (show 3 ≠ 39 by decide)]
        exact hP 21 _ rfl
      · intro sh hk
        cases hk
        rw [zI0_n (show 4 ≠ 39 by decide)]
        simp only [zxE, zxSl, List.mapIdx_cons, List.mapIdx_nil, Nat.zero_add]
        exact hP 22 _ rfl
      · intro sh hk
        cases hk
        rw [zI0_n (show 5 ≠ 39 by decide)]
        exact hP 23 _ rfl
      · intro sh hk
        cases hk
        rw [zI0_n (show 6 ≠ 39 by decide)]
        simp only [zxE, zxSl, List.mapIdx_cons, List.mapIdx_nil, Nat.zero_add]
        exact hP 24 _ rfl
      · intro sh hk
        cases hk
        rw [zI0_n (show 7 ≠ 39 by decide)]
        exact hP 25 _ rfl
      · intro sh hk
        cases hk
        rw [zI0_n (show 8 ≠ 39 by decide)]
        simp only [zxE, zxSl, List.mapIdx_cons, List.mapIdx_nil, Nat.zero_add]
        exact hP 26 _ rfl
      · intro sh hk
        cases hk
        rw [zI0_n (show 9 ≠ 39 by decide)]
        exact hP 27 _ rfl
      · intro sh hk
        cases hk
        rw [zI0_n (show 10 ≠ 39 by decide)]
        simp only [zxE, zxSl, List.mapIdx_cons, List.mapIdx_nil, Nat.zero_add]
        exact hP 2 _ rfl
      · intro sh hk
        cases hk
        rw [zI0_n (show 11 ≠ 39 by decide)]
        exact hP 3 _ rfl
      · intro sh hk
        cases hk
        rw [zI0_n (show 12 ≠ 39 by decide)]
        exact hP 4 _ rfl
      · intro sh hk
        cases hk
        rw [zI0_n (show 13 ≠ 39 by decide)]
        exact hP 5 _ rfl
      · intro sh hk
        cases hk
        rw [zI0_n (show 14 ≠ 39 by decide)]
        simp only [zxE, zxSl, List.mapIdx_cons, List.mapIdx_nil, Nat.zero_add]
        exact hP 6 _ rfl
      · intro sh hk
        cases hk
        rw [zI0_n (show 15 ≠ 39 by decide)]
        exact hP 7 _ rfl
      · intro sh hk
        cases hk
        rw [zI0_n (show 16 ≠ 39 by decide)]
        simp only [zxE, zxSl, List.mapIdx_cons, List.mapIdx_nil, Nat.zero_add]
        exact hP 28 _ rfl
      · intro sh hk
        cases hk
        rw [zI0_n (show 17 ≠ 39 by decide)]
        exact hP 29 _ rfl
      · intro sh hk
        cases hk
        rw [zI0_n (show 18 ≠ 39 by decide)]
        simp only [zxE, zxSl, List.mapIdx_cons, List.mapIdx_nil, Nat.zero_add]
        exact hP 30 _ rfl
      · intro sh hk
        cases hk
        rw [zI0_n (show 19 ≠ 39 by decide)]
        exact hP 31 _ rfl
      · intro sh hk
        cases hk
        rw [zI0_n (show 20 ≠ 39 by decide)]
        simp only [zxE, zxSl, List.mapIdx_cons, List.mapIdx_nil, Nat.zero_add]
        exact hP 32 _ rfl
      · intro sh hk
        cases hk
        rw [zI0_n (show 21 ≠ 39 by decide)]
        exact hP 33 _ rfl
      · intro sh hk
        cases hk
        rw [zI0_n (show 22 ≠ 39 by decide)]
        simp only [zxE, zxSl, List.mapIdx_cons, List.mapIdx_nil, Nat.zero_add]
        exact hP 34 _ rfl
      · intro sh hk
        cases hk
        rw [zI0_n (show 23 ≠ 39 by decide)]
        exact hP 35 _ rfl
      · intro sh hk
        cases hk
        rw [zI0_n (show 24 ≠ 39 by decide)]
        simp only [zxE, zxSl, List.mapIdx_cons, List.mapIdx_nil, Nat.zero_add]
        exact hP 36 _ rfl
      · intro sh hk
        cases hk
        rw [zI0_n (show 25 ≠ 39 by decide)]
        exact hP 37 _ rfl
      · intro sh hk
        cases hk
        rw [zI0_n (show 26 ≠ 39 by decide)]
        simp only [zxE, zxSl, List.mapIdx_cons, List.mapIdx_nil, Nat.zero_add]
        exact hP 38 _ rfl
      · intro sh hk
        cases hk
        rw [zI0_n (show 27 ≠ 39 by decide)]
        exact hP 39 _ rfl
      · intro sh hk
        cases hk
        rw [zI0_n (show 28 ≠ 39 by decide)]
        simp only [zxE, zxSl, List.mapIdx_cons, List.mapIdx_nil, Nat.zero_add]
        exact hP 40 _ rfl
      · intro sh hk
        cases hk
        rw [zI0_n (show 29 ≠ 39 by decide)]
        exact hP 41 _ rfl
      · intro sh hk
        cases hk
        rw [zI0_n (show 30 ≠ 39 by decide)]
        exact zi_rf (hP 15 _ rfl) hf30
      · intro sh hk
        cases hk
        rw [zI0_n (show 31 ≠ 39 by decide)]
        simp only [zxE, zxSl, List.mapIdx_cons, List.mapIdx_nil, Nat.zero_add]
        exact hP 8 _ rfl
      · intro sh hk
        cases hk
        rw [zI0_n (show 32 ≠ 39 by decide)]
        exact hP 9 _ rfl
      · intro sh hk
        cases hk
        rw [zI0_n (show 33 ≠ 39 by decide)]
        exact hP 10 _ rfl
      · intro sh hk
        cases hk
        rw [zI0_n (show 34 ≠ 39 by decide)]
        exact hP 11 _ rfl
      · intro sh hk
        cases hk
        rw [zI0_n (show 35 ≠ 39 by decide)]
        simp only [zxE, zxSl, List.mapIdx_cons, List.mapIdx_nil, Nat.zero_add]
        exact hP 12 _ rfl
      · intro sh hk
        cases hk
        rw [zI0_n (show 36 ≠ 39 by decide)]
        exact hP 13 _ rfl
      · intro sh hk
        cases hk
        rw [zI0_n (show 37 ≠ 39 by decide)]
        exact hP 14 _ rfl
      · intro sh hk
        cases hk
        rw [zI0_n (show 38 ≠ 39 by decide)]
        exact hP 16 _ rfl
      · intro sh hk
        cases hk
        rw [zI0_39]
        simp only [zxE, zxSl, List.mapIdx_cons, List.mapIdx_nil, Nat.zero_add]
        exact hP 17 _ rfl
      · intro sh hk
        cases hk
        rw [zI0_n (show 40 ≠ 39 by decide)]
        exact hP 18 _ rfl
      · intro sh hk
        cases hk
        rw [zI0_n (show 41 ≠ 39 by decide)]
        exact hP 19 _ rfl
    exact zi_P (fun k sh hk => h0 k (List.getElem?_eq_some_iff.mp hk).1 sh hk)
  have hD9 : va_D A (zxW shX ad cA zI0) := by
    refine zi_D hD (fun k hk => ?_) (fun i j hi hj e => ?_)
    · have h0 : ∀ k : Nat, k < 42 → ∃ (i : Nat) (x : va_E), ([(h0, .inr (6, [.ref q0, .ref q1, .ref q5, .ref q7, .ref q11, .ref q14, .ref q15, .ref q16, .int 0, .int 0, .int 0])), (q0, .inl (cA 1, 4, .inr (.inr (.inr (.inr (va_up (va_up (va_up (va_up (fun _ => none) 0 (some q19)) 1 (some q21)) 2 (some q23)) 3 (some q25))))))), (q1, .inr (2, [.int 0, .int 0, .ref q2, .ref q3, .ref q4, .int 0])), (q2, .inl (cA 0, 4, .inl (fun _ => 0))), (q3, .inl (cA 0, 6, .inl (fun _ => 0))), (q4, .inl (cA 0, 6, .inl (fun _ => 0))), (q5, .inr (0, [.ref q6, .int 0])), (q6, .inl (cA 0, 6, .inl (fun _ => 0))), (q7, .inr (3, [.int 0, .ref q8, .ref q9, .ref q10])), (q8, .inl (cA 0, 8, .inl (fun _ => 0))), (q9, .inl (cA 0, 8, .inl (fun _ => 0))), (q10, .inl (cA 0, 8, .inl (fun _ => 0))), (q11, .inr (1, [.int 0, .ref q12, .ref q13])), (q12, .inl (cA 0, 20, .inl (fun _ => 0))), (q13, .inl (cA 0, 20, .inl (fun _ => 0))), (q14, .inl (cA 2, 7, .inr (.inr (.inr (.inr (va_up (va_up (va_up (va_up (va_up (va_up (va_up (fun _ => none) 0 (some q27)) 1 (some q29)) 2 (some q31)) 3 (some q33)) 4 (some q35)) 5 (some q37)) 6 (some q39))))))), (q15, .inl (cA 0, 6, .inl (fun _ => 0))), (q16, .inr (4, [.ref q17, .ref q18, .int (-1 : Int32)])), (q17, .inl (cA 0, 6, .inl (fun _ => 0))), (q18, .inl (cA 0, 6, .inl (fun _ => 0))), (q19, .inr (5, [.int 0, .int 0, .ref q20, .int 0])), (q20, .inl (cA 0, 60, .inl (fun _ => 0))), (q21, .inr (5, [.int 0, .int 0, .ref q22, .int 0])), (q22, .inl (cA 0, 60, .inl (fun _ => 0))), (q23, .inr (5, [.int 0, .int 0, .ref q24, .int 0])), (q24, .inl (cA 0, 60, .inl (fun _ => 0))), (q25, .inr (5, [.int 0, .int 0, .ref q26, .int 0])), (q26, .inl (cA 0, 60, .inl (fun _ => 0))), (q27, .inr (0, [.ref q28, .int 0])), (q28, .inl (cA 0, 6, .inl (fun _ => 0))), (q29, .inr (0, [.ref q30, .int 0])), (q30, .inl (cA 0, 6, .inl (fun _ => 0))), (q31, .inr (0, [.ref q32, .int 0])), (q32, .inl (cA 0, 6, .inl (fun _ => 0))), (q33, .inr (0, [.ref q34, .int 0])), (q34, .inl (cA 0, 6, .inl (fun _ => 0))), (q35, .inr (0, [.ref q36, .int 0])), (q36, .inl (cA 0, 6, .inl (fun _ => 0))), (q37, .inr (0, [.ref q38, .int 0])), (q38, .inl (cA 0, 6, .inl (fun _ => 0))), (q39, .inr (0, [.ref q40, .int 0])), (q40, .inl (cA 0, 6, .inl (fun _ => 0)))] : va_W)[i]? = some (ad k, x) := by
        subst had
        refine lt_s (lt_s (lt_s (lt_s (lt_s (lt_s (lt_s (lt_s (lt_s (lt_s (lt_s (lt_s (lt_s (lt_s (lt_s (lt_s (lt_s (lt_s (lt_s (lt_s (lt_s (lt_s (lt_s (lt_s (lt_s (lt_s (lt_s (lt_s (lt_s (lt_s (lt_s (lt_s (lt_s (lt_s (lt_s (lt_s (lt_s (lt_s (lt_s (lt_s (lt_s (lt_s (lt_0) ?_) ?_) ?_) ?_) ?_) ?_) ?_) ?_) ?_) ?_) ?_) ?_) ?_) ?_) ?_) ?_) ?_) ?_) ?_) ?_) ?_) ?_) ?_) ?_) ?_) ?_) ?_) ?_) ?_) ?_) ?_) ?_) ?_) ?_) ?_) ?_) ?_) ?_) ?_) ?_) ?_) ?_
        · exact ⟨0, _, rfl⟩
        · exact ⟨1, _, rfl⟩
        · exact ⟨20, _, rfl⟩
        · exact ⟨21, _, rfl⟩
        · exact ⟨22, _, rfl⟩
        · exact ⟨23, _, rfl⟩
        · exact ⟨24, _, rfl⟩
        · exact ⟨25, _, rfl⟩
        · exact ⟨26, _, rfl⟩
        · exact ⟨27, _, rfl⟩
        · exact ⟨2, _, rfl⟩
        · exact ⟨3, _, rfl⟩
        · exact ⟨4, _, rfl⟩
        · exact ⟨5, _, rfl⟩
        · exact ⟨6, _, rfl⟩
        · exact ⟨7, _, rfl⟩
        · exact ⟨28, _, rfl⟩
        · exact ⟨29, _, rfl⟩
        · exact ⟨30, _, rfl⟩
        · exact ⟨31, _, rfl⟩
        · exact ⟨32, _, rfl⟩
        · exact ⟨33, _, rfl⟩
        · exact ⟨34, _, rfl⟩
        · exact ⟨35, _, rfl⟩
        · exact ⟨36, _, rfl⟩
        · exact ⟨37, _, rfl⟩
        · exact ⟨38, _, rfl⟩
        · exact ⟨39, _, rfl⟩
        · exact ⟨40, _, rfl⟩
        · exact ⟨41, _, rfl⟩
        · exact ⟨15, _, rfl⟩
        · exact ⟨8, _, rfl⟩
        · exact ⟨9, _, rfl⟩
        · exact ⟨10, _, rfl⟩
        · exact ⟨11, _, rfl⟩
        · exact ⟨12, _, rfl⟩
        · exact ⟨13, _, rfl⟩
        · exact ⟨14, _, rfl⟩
        · exact ⟨16, _, rfl⟩
        · exact ⟨17, _, rfl⟩
        · exact ⟨18, _, rfl⟩
        · exact ⟨19, _, rfl⟩
      exact h0 k hk
    · subst had
      exact zi_nd (n := 42) (l := [h0, q0, q19, q20, q21, q22, q23, q24, q25, q26, q1, q2, q3, q4, q5, q6, q27, q28, q29, q30, q31, q32, q33, q34, q35, q36, q37, q38, q39, q40, q14, q7, q8, q9, q10, q11, q12, q13, q15, q16, q17, q18]) (ps := [0, 1, 20, 21, 22, 23, 24, 25, 26, 27, 2, 3, 4, 5, 6, 7, 28, 29, 30, 31, 32, 33, 34, 35, 36, 37, 38, 39, 40, 41, 15, 8, 9, 10, 11, 12, 13, 14, 16, 17, 18, 19]) hD rfl (by decide) (Nat.le_refl _) i j hi hj e
  exact ⟨ad, by rw [had]; rfl, hP9, hD9⟩
