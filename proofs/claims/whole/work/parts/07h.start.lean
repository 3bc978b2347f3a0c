/-! the law from its entry -/
theorem zl_tb {i : Nat} {w : Cond} (h : tables_1[i]? = some w) : w ∈ lw_tbl := List.mem_append_right _ (List.mem_of_getElem? h)
theorem zR_0 : zR zI0 zM0 := by
  have e1 : ∀ q, q ≠ 39 → zI0 q = fun _ => 0 := fun q h => zI0_n h
  have e2 : ∀ q, q ≠ 1 → zM0 q = fun _ => 0 := fun q h => zM0_n h
  refine ⟨⟨0, 0, ?_⟩, fun k hk => Or.inl ⟨?_, ?_⟩⟩
  · unfold zRc
    rw [e1 10 (by decide), e1 0 (by decide), e1 (zaO 0) (by decide), e1 11 (by decide), e1 12 (by decide), e1 (zaF 0) (by decide), e1 13 (by decide), e1 31 (by decide), e1 32 (by decide), e1 33 (by decide), e1 34 (by decide), e2 0 (by decide), e2 4 (by decide), e2 5 (by decide), e2 6 (by decide), e2 7 (by decide), e2 13 (by decide), e2 14 (by decide), e2 15 (by decide)]
    exact ⟨rfl, rfl, Or.inl rfl, by omega, rfl, rfl, by omega, fun h => absurd h (by omega), rfl, rfl, rfl, rfl, ⟨0, by omega, rfl⟩, rfl, ⟨0, by omega, rfl⟩, rfl, rfl, rfl, rfl, fun g _ => ⟨0, by omega, rfl⟩, fun w _ => ⟨0, by omega, rfl⟩, fun g _ => Or.inl rfl, fun g _ => ⟨0, by omega, rfl⟩, rfl, ⟨0, by omega, rfl⟩, rfl, rfl, rfl, fun q _ => ⟨0, by omega, rfl⟩⟩
  · rw [e1 _ (by unfold zsO; omega)]
  · rw [zM0_1]
    rcases (show k = 0 ∨ k = 1 ∨ k = 2 ∨ k = 3 by omega) with e | e | e | e <;> subst e <;> rfl
theorem zyN_call {U : State} {g : JFrame} {mk : MethodId} {a : Array Value} (h : zyN U) : zyN (U.calling g mk a) := by
  obtain ⟨h1, h2, h3, h4, h5, h6, h7, h8⟩ := h
  exact ⟨va_Nw.same rfl (u := U) (U := U.calling g mk a) rfl h1, va_Nw.same rfl (u := U) (U := U.calling g mk a) rfl h2, va_Nw.same rfl (u := U) (U := U.calling g mk a) rfl h3, va_Nw.same rfl (u := U) (U := U.calling g mk a) rfl h4, va_Nw.same rfl (u := U) (U := U.calling g mk a) rfl h5, va_Nw.same rfl (u := U) (U := U.calling g mk a) rfl h6, va_AO.moved (u := U) (U := U.calling g mk a) (Vm.Alike.refl U.vm) h7, va_AO.moved (u := U) (U := U.calling g mk a) (Vm.Alike.refl U.vm) h8⟩
theorem zyN_warm {s U : State} (hW : s.WarmedH U.vm) (h : zyN s) : zyN U := by
  obtain ⟨h1, h2, h3, h4, h5, h6, h7, h8⟩ := h
  exact ⟨va_Nw.warmM hW h1, va_Nw.warmM hW h2, va_Nw.warmM hW h3, va_Nw.warmM hW h4, va_Nw.warmM hW h5, va_Nw.warmM hW h6, va_AO.moved hW.alike h7, va_AO.moved hW.alike h8⟩
/-- classes, arrays, nests, out of the tables -/
theorem zl_known {s : State} {A : Array Value} (hts : ∀ w ∈ lw_tbl, w.before A s = true) : ∃ (D : va_G) (cA : Nat → ClassId), va_K D vwCl (zxT cA) s ∧ va_Nw zxNest s ∧ zyN s := by
  obtain ⟨c0, i0, k0⟩ := u_known (C := RX0) (T := TX0) (N := 2) (n := 2) hts zx_in_wsX00 (hts (.instantiable RX0 2) (zl_tb (i := 55) (by decide +kernel)))
  obtain ⟨c1, i1, k1⟩ := u_known (C := RX1) (T := TX1) (N := 3) (n := 3) hts zx_in_wsX10 (hts (.instantiable RX1 3) (zl_tb (i := 92) (by decide +kernel)))
  obtain ⟨c2, i2, k2⟩ := u_known (C := RX2) (T := TX2) (N := 6) (n := 6) hts zx_in_wsX20 (hts (.instantiable RX2 6) (zl_tb (i := 23) (by decide +kernel)))
  obtain ⟨c3, i3, k3⟩ := u_known (C := RX3) (T := TX3) (N := 4) (n := 4) hts zx_in_wsX30 (hts (.instantiable RX3 4) (zl_tb (i := 72) (by decide +kernel)))
  obtain ⟨c4, i4, k4⟩ := u_known (C := RX4) (T := TX4) (N := 3) (n := 3) hts zx_in_wsX40 (hts (.instantiable RX4 3) (zl_tb (i := 112) (by decide +kernel)))
  obtain ⟨c5, i5, k5⟩ := u_known (C := RX5) (T := TX5) (N := 4) (n := 4) hts zx_in_wsX50 (hts (.instantiable RX5 4) (zl_tb (i := 130) (by decide +kernel)))
  obtain ⟨c6, i6, k6⟩ := u_known (C := RX6) (T := TX6) (N := 11) (n := 11) hts zx_in_wsX60 (hts (.instantiable RX6 11) (zl_tb (i := 13) (by decide +kernel)))
  obtain ⟨c7, i7, k7⟩ := u_known (C := RX7) (T := TX7) (N := 29) (n := 29) hts zx_in_wsX70 (hts (.instantiable RX7 29) (zl_tb (i := 505) (by decide +kernel)))
  obtain ⟨a0, q0, p0, f0, g0, h0⟩ := Cond.arrayClass_spec (hts (.arrayClass .int) (zl_tb (i := 53) (by decide +kernel)))
  obtain ⟨p1, a1, q1, e1, -, f1, g1, h1⟩ := Cond.arrayOver_spec (n := "GalleryBirds$Sheet") (hts (.arrayOver (.object "GalleryBirds$Sheet")) (zl_tb (i := 21) (by decide +kernel)))
  obtain ⟨p2, a2, q2, e2, -, f2, g2, h2⟩ := Cond.arrayOver_spec (n := "GalleryBirds$Air") (hts (.arrayOver (.object "GalleryBirds$Air")) (zl_tb (i := 110) (by decide +kernel)))
  refine ⟨(fun k => [c0, c1, c2, c3, c4, c5, c6, c7].getD k c0, fun k => [i0, i1, i2, i3, i4, i5, i6, i7].getD k i0), fun k => [a0, a1, a2].getD k a0, ⟨?_, ?_⟩, ?_, ?_⟩
  · intro k q hq
    match k, hq with
    | 0, hq => cases hq; exact k0
    | 1, hq => cases hq; exact k1
    | 2, hq => cases hq; exact k2
    | 3, hq => cases hq; exact k3
    | 4, hq => cases hq; exact k4
    | 5, hq => cases hq; exact k5
    | 6, hq => cases hq; exact k6
    | 7, hq => cases hq; exact k7
    | k + 8, hq => simp [vwCl] at hq
  · intro k q hq
    match k, hq with
    | 0, hq => cases hq; exact ⟨fun N z => ⟨(fun k h => by cases h), q0, g0, p0, h0⟩, f0⟩
    | 1, hq => cases hq; exact ⟨fun N z => ⟨(fun k h => by cases h), q1, f1, p1, g1⟩, q1, p1, f1, g1, e1, h1⟩
    | 2, hq => cases hq; exact ⟨fun N z => ⟨(fun k h => by cases h), q2, f2, p2, g2⟩, q2, p2, f2, g2, e2, h2⟩
    | k + 3, hq => simp [zxT] at hq
  · exact va_Nw.of rfl (hts zxNest (zl_tb (i := 245) (by decide +kernel)))
  · refine ⟨va_Nw.of rfl (hts _ (zl_tb (i := 24) (by decide +kernel))), va_Nw.of rfl (hts _ (zl_tb (i := 56) (by decide +kernel))), va_Nw.of rfl (hts _ (zl_tb (i := 73) (by decide +kernel))), va_Nw.of rfl (hts _ (zl_tb (i := 93) (by decide +kernel))), va_Nw.of rfl (hts _ (zl_tb (i := 113) (by decide +kernel))), va_Nw.of rfl (hts _ (zl_tb (i := 131) (by decide +kernel))), hts (.arrayOver (.object "GalleryBirds$Sheet")) (zl_tb (i := 21) (by decide +kernel)), hts (.arrayOver (.object "GalleryBirds$Air")) (zl_tb (i := 110) (by decide +kernel))⟩
theorem zl_dM (j : Nat) (hj : j < 29) : defaultValue (tyX7 j) = vp_V [.int 0, .int 0, .null, .null, .null, .int 0, .int 0, .int 0, .int 0, .int 0, .null, .null, .null, .null, .int 0, .int 0, .int 0, .null, .null, .null, .int 0, .int 0, .int 0, .null, .null, .int 0, .null, .null, .null] j := by
  match j, hj with
  | 0, _ => rfl
  | 1, _ => rfl
  | 2, _ => rfl
  | 3, _ => rfl
  | 4, _ => rfl
  | 5, _ => rfl
  | 6, _ => rfl
  | 7, _ => rfl
  | 8, _ => rfl
  | 9, _ => rfl
  | 10, _ => rfl
  | 11, _ => rfl
  | 12, _ => rfl
  | 13, _ => rfl
  | 14, _ => rfl
  | 15, _ => rfl
  | 16, _ => rfl
  | 17, _ => rfl
  | 18, _ => rfl
  | 19, _ => rfl
  | 20, _ => rfl
  | 21, _ => rfl
  | 22, _ => rfl
  | 23, _ => rfl
  | 24, _ => rfl
  | 25, _ => rfl
  | 26, _ => rfl
  | 27, _ => rfl
  | 28, _ => rfl
  | j + 29, hj => exact absurd hj (by omega)
/-- the class's world, and the reference's new object -/
theorem zl_split {D : va_G} {cA : Nat → ClassId} {ad : Nat → Nat} {I : zxI} {y0 : Nat} {x : va_E} {A : Nat → Prop} {H : Heap} (hP : va_P D vwCl (zxW shX ad cA I ++ [(y0, x)]) H) (hD : va_D A (zxW shX ad cA I ++ [(y0, x)])) : va_P D vwCl (zxW shX ad cA I) H ∧ va_P D vwCl [(y0, x)] H ∧ va_D A [(y0, x)] ∧ ∀ i, i < 42 → ad i ≠ y0 := by
  have hlen : (zxW shX ad cA I).length = 42 := by simp only [zxW, List.length_mapIdx, shX_len]
  have e : (zxW shX ad cA I ++ [(y0, x)])[42]? = some (y0, x) := by
    rw [List.getElem?_append_right (by omega), hlen]
    rfl
  have lt : ∀ (k : Nat) (q : Nat × va_E), [(y0, x)][k]? = some q → k = 0 ∧ q = (y0, x) := by
    intro k q hq
    match k, hq with
    | 0, hq => cases hq; exact ⟨rfl, rfl⟩
    | k + 1, hq => simp at hq
  refine ⟨fun k q hq => hP k q ?_, fun k q hq => ?_, ⟨fun i j p q hp hq _ => ?_, fun k q hq => ?_⟩, fun i hi z => ?_⟩
  · rw [List.getElem?_append_left (List.getElem?_eq_some_iff.mp hq).1]
    exact hq
  · obtain ⟨-, rfl⟩ := lt k q hq
    exact hP 42 _ e
  · rw [(lt i p hp).1, (lt j q hq).1]
  · obtain ⟨-, rfl⟩ := lt k q hq
    exact hD.2 42 _ e
  · obtain ⟨sh, hsh⟩ : ∃ sh, shX[i]? = some sh := ⟨_, List.getElem?_eq_getElem (by rw [shX_len]; exact hi)⟩
    have h1 : (zxW shX ad cA I ++ [(y0, x)])[i]? = some (ad i, zxE ad cA (I i) sh) := by
      rw [List.getElem?_append_left (by omega)]
      exact zxW_at hsh
    have := hD.1 i 42 _ _ h1 e z
    omega
theorem zl_begin {D : va_G} {cA : Nat → ClassId} {ad bd : Nat → Nat} {I J : zxI} {y0 : Nat} {x : va_E} {s : State} {H H1 : Heap} {locs : List Loc} (hK : zxK D cA s) (hP : va_P D vwCl (zxW shX ad cA I) H) (hD : va_D (fun q : Nat => s.heap.size ≤ q) (zxW shX ad cA I)) (hxy : ∀ i, i < 42 → ad i ≠ y0) (hk : ∀ q : Nat, q < H.size → ¬ va_A [(y0, x)] H.size q → H1[q]? = H[q]?) (hF : ∀ q, va_A [(y0, x)] H.size q → (fun q : Nat => s.heap.size ≤ q) q) (hP1 : va_P D vwCl (zxW shM bd cA J) H1) (hD1 : va_D (va_A [(y0, x)] H.size) (zxW shM bd cA J)) (hS : va_S (fun q : Nat => s.heap.size ≤ q) s.heap H1 locs) : zl2 D cA shX ad I shM bd J s H1 locs := by
  have atX : ∀ i, i < 42 → ∃ x, (zxW shX ad cA I)[i]? = some (ad i, x) := fun i hi => by
    obtain ⟨sh, hsh⟩ : ∃ sh, shX[i]? = some sh := ⟨_, List.getElem?_eq_getElem (by rw [shX_len]; exact hi)⟩
    exact ⟨_, zxW_at hsh⟩
  have atM : ∀ i, i < 16 → ∃ x, (zxW shM bd cA J)[i]? = some (bd i, x) := fun i hi => by
    obtain ⟨sh, hsh⟩ : ∃ sh, shM[i]? = some sh := ⟨_, List.getElem?_eq_getElem (by rw [shM_len]; exact hi)⟩
    exact ⟨_, zxW_at hsh⟩
  have notA : ∀ i, i < 42 → ad i < H.size ∧ ¬ va_A [(y0, x)] H.size (ad i) := fun i hi => by
    obtain ⟨v, hv⟩ := atX i hi
    have hl := (hP i _ hv).lt
    refine ⟨hl, fun z => ?_⟩
    rcases z with ⟨k, e, hke⟩ | z
    · match k, hke with
      | 0, hke => cases hke; exact hxy i hi rfl
      | k + 1, hke => simp at hke
    · exact absurd hl (Nat.not_lt.mpr z)
  refine ⟨hK, fun k q hq => ?_, hP1, ⟨fun i j hi hj e => ?_, fun i j hi hj e => ?_, fun i j hi hj e => ?_, fun i hi => ?_, fun j hj => ?_⟩, hS⟩
  · obtain ⟨g1, g2⟩ := zxW_of hq
    obtain ⟨g3, g4⟩ := notA k g1
    rw [← g2] at g3 g4
    exact (hP k q hq).kept (hk q.1 g3 g4)
  · obtain ⟨v, hv⟩ := atX i hi
    obtain ⟨w, hw⟩ := atX j hj
    exact hD.1 i j _ _ hv hw e
  · obtain ⟨v, hv⟩ := atM i hi
    obtain ⟨w, hw⟩ := atM j hj
    exact hD1.1 i j _ _ hv hw e
  · obtain ⟨w, hw⟩ := atM j hj
    exact (notA i hi).2 (by rw [e]; exact hD1.2 j _ hw)
  · obtain ⟨v, hv⟩ := atX i hi
    exact hD.2 i _ hv
  · obtain ⟨w, hw⟩ := atM j hj
    exact hF _ (hD1.2 j _ hw)
set_option maxHeartbeats 4000000 in
set_option maxRecDepth 100000 in
theorem whole_start {p : Program} {e : Env} {s : State} {m : MethodId} {below : List Frame} {meth : Method} {c : Code} (l : Launch) (hflags : l.flags = flags0) {b L : Nat} {xs : Nat → Int32} (hL : L ≤ 3072) (C0 : lw_At p s m meth c b L xs) : W p l e room_1 s m #[Value.ref b] below meth c s.heap [] 0 0 (lw_Z below #[Value.ref b] s) (entryFrame m ([Value.ref b] : List Value).toArray 4) := by
  obtain ⟨hx, hb, hr, hml, hown, hts, hX, hbl, hlocks, hgv⟩ := id C0
  have C1 : zlC p s m meth c b L xs := zlC_of hx hb hml hown hts hX hbl
  have htsL : ∀ w ∈ wsL_law, w.before #[Value.ref b] s = true := C1.2.2.2.2.1
  have hA : ∀ q : Nat, s.heap.size ≤ q → (fun q : Nat => s.heap.size ≤ q) q := fun _ h => h
  obtain ⟨D, cA, hK, hNw, hyN⟩ := zl_known hts
  have hS : va_S (fun q : Nat => s.heap.size ≤ q) s.heap s.heap [] := va_S.rf
  have hP : va_P D vwCl [] s.heap := fun k q h => by simp at h
  have hD : va_D (fun q : Nat => s.heap.size ≤ q) [] := ⟨fun i j p q h => by simp at h, fun k q h => by simp at h⟩
  have hl := lv_entry ([.ref b]) (n := 4) (Nat.le_of_ble_eq_true rfl)
  rw [lg_entry_eq]
  generalize (lg_sl ([.ref b]) ++ List.replicate (4 - (lg_sl ([.ref b])).length) Slot.unset).toArray = ls at hl ⊢
  have hl : lv_has ls 4 [(0, .ref b)] := hl
  have w1 := hts (.classLink RL 7 RX6) (zl_tb (i := 12) (by decide +kernel))
  have w2 := hts (.instantiable RX6 11) (zl_tb (i := 13) (by decide +kernel))
  have w3 := hts (.initialized RX6) (zl_tb (i := 1) (by decide +kernel))
  have w4 := hts (.classLink RL 10 RX7) (zl_tb (i := 504) (by decide +kernel))
  have w5 := hts (.instantiable RX7 29) (zl_tb (i := 505) (by decide +kernel))
  have w6 := hts (.initialized RX7) (zl_tb (i := 8) (by decide +kernel))
  have w7 : (Cond.methodLink RL 9 yX6_init).before #[Value.ref b] s = true := hts _ (zl_tb (i := 14) (by decide +kernel))
  have w8 : (Cond.instanceMethod yX6_init).before #[Value.ref b] s = true := hts _ (zl_tb (i := 15) (by decide +kernel))
  have w9 : (Cond.methodLink RL 12 yX7_init).before #[Value.ref b] s = true := hts _ (zl_tb (i := 506) (by decide +kernel))
  have w10 : (Cond.instanceMethod yX7_init).before #[Value.ref b] s = true := hts _ (zl_tb (i := 507) (by decide +kernel))
  refine va_new (ci := 6) (fs := [.null, .null, .null, .null, .null, .null, .null, .null, .int 0, .int 0, .int 0]) (C := RX6) (T := TX6) (N := 11) hx hb hts zx_in_wsX60 tyX6 tyX6_ok hown w1 w2 w3 hK hP hD hS hA vc_6 (fun j hj => by rcases (show j = 0 ∨ j = 1 ∨ j = 2 ∨ j = 3 ∨ j = 4 ∨ j = 5 ∨ j = 6 ∨ j = 7 ∨ j = 8 ∨ j = 9 ∨ j = 10 by omega) with rfl | rfl | rfl | rfl | rfl | rfl | rfl | rfl | rfl | rfl | rfl <;> rfl) (Nat.le_of_ble_eq_true rfl) (Nat.le_of_ble_eq_true rfl) dL_law_0 (fun x0 H hP hD hS => ?_)
  have hP : va_P D vwCl [(x0, .inr (6, [.null, .null, .null, .null, .null, .null, .null, .null, .int 0, .int 0, .int 0]))] H := hP
  have hD : va_D (fun q : Nat => s.heap.size ≤ q) [(x0, .inr (6, [.null, .null, .null, .null, .null, .null, .null, .null, .int 0, .int 0, .int 0]))] := hD
  refine W.widen (k := 1) (n := 11) (Nat.le_refl _) (Nat.le_refl _) ?_
  refine lv_dup hx hb dL_law_3 rfl ?_
  have hFc := va_free (wc := [(x0, .inr (6, [.null, .null, .null, .null, .null, .null, .null, .null, .int 0, .int 0, .int 0]))]) hD hS hA [0] rfl
  refine va_callv (va_runI (As := []) (rest := [.ref x0]) ⟨hx, hb, hml, hown, htsL⟩ (iX6 l D cA x0 H.size) (cwI 0 htsL gL_law_X6_init rfl rfl rfl w3 w7 w8 rfl (by decide +kernel) ⟨Nat.le_of_ble_eq_true rfl, Nat.le_of_ble_eq_true rfl⟩) ⟨fun a U g mk q => by obtain ⟨q0, q1, qP, qK, qD⟩ := q; exact ⟨q0, q1, qP, ⟨va_K.moved (u := U) (U := U.calling g mk a) (Vm.Alike.refl U.vm) qK.1, zyN_call qK.2⟩, qD⟩, fun U hU hW => ⟨rfl, by rw [hU], by rw [hU]; exact hP, ⟨va_K.moved hW.alike hK, zyN_warm hW hyN⟩, hD.weaken (fun _ _ _ _ => trivial)⟩⟩ rfl rfl hl.1 rfl (lv_room (Nat.le_of_ble_eq_true rfl)) dL_law_4 ⟨Nat.le_of_ble_eq_true rfl, Nat.le_of_ble_eq_true rfl⟩) hS (fun q _ h => hFc q h) hFc (fun u t H1 locs ht hvm hw hB hz1 hk1 hS => ?_)
  obtain ⟨ad, had, hP1, hD1⟩ := hB
  rw [ht] at hP1
  generalize H1 = H at hP1 hS ⊢
  have hDX : va_D (fun q : Nat => s.heap.size ≤ q) (zxW shX ad cA zI0) := hD1.weaken (fun k x _ h => hFc x.1 h)
  refine W.widen (k := 42) (n := 456) (Nat.le_refl _) (Nat.le_refl _) ?_
  refine lv_astore_n (lv' := [(1, .ref x0), (0, .ref b)]) hx hb dL_law_7 rfl hl (by decide) rfl (fun ls hl => ?_)
  refine va_new (ci := 7) (fs := [.int 0, .int 0, .null, .null, .null, .int 0, .int 0, .int 0, .int 0, .int 0, .null, .null, .null, .null, .int 0, .int 0, .int 0, .null, .null, .null, .int 0, .int 0, .int 0, .null, .null, .int 0, .null, .null, .null]) (C := RX7) (T := TX7) (N := 29) hx hb hts zx_in_wsX70 tyX7 tyX7_ok hown w4 w5 w6 hK hP1 hDX hS hA vc_7 (fun j hj => zl_dM j hj) (Nat.le_of_ble_eq_true rfl) (Nat.le_of_ble_eq_true rfl) dL_law_8 (fun y0 H hP2 hD2 hS => ?_)
  refine W.widen (k := 43) (n := 485) (Nat.le_refl _) (Nat.le_refl _) ?_
  refine lv_dup hx hb dL_law_11 rfl ?_
  obtain ⟨hPX, hPM, hDM, hxy⟩ := zl_split hP2 hD2
  have hFM := va_free (wc := [(y0, .inr (7, [.int 0, .int 0, .null, .null, .null, .int 0, .int 0, .int 0, .int 0, .int 0, .null, .null, .null, .null, .int 0, .int 0, .int 0, .null, .null, .null, .int 0, .int 0, .int 0, .null, .null, .int 0, .null, .null, .null]))]) hDM hS hA [0] rfl
  refine va_callv (va_runI (As := []) (rest := [.ref y0]) ⟨hx, hb, hml.trans hl.1.symm |>.trans hl.1, hown, htsL⟩ (iX7 l D cA y0 H.size) (cwI 0 htsL gL_law_X7_init rfl rfl rfl w6 w9 w10 rfl (by decide +kernel) ⟨Nat.le_of_ble_eq_true rfl, Nat.le_of_ble_eq_true rfl⟩) ⟨fun a U g mk q => by obtain ⟨q0, q1, qP, qK, qD⟩ := q; exact ⟨q0, q1, qP, va_K.moved (u := U) (U := U.calling g mk a) (Vm.Alike.refl U.vm) qK, qD⟩, fun U hU hW => ⟨rfl, by rw [hU], by rw [hU]; exact hPM, va_K.moved hW.alike hK, hDM.weaken (fun _ _ _ _ => trivial)⟩⟩ rfl rfl hl.1 rfl (lv_room (Nat.le_of_ble_eq_true rfl)) dL_law_12 ⟨Nat.le_of_ble_eq_true rfl, Nat.le_of_ble_eq_true rfl⟩) hS (fun q _ h => hFM q h) hFM (fun u t H1 locs ht hvm hw hB hz1 hk1 hS => ?_)
  obtain ⟨bd, hbd, hP3, hD3⟩ := hB
  rw [ht] at hP3
  have hG := zl_begin ⟨hK, hNw⟩ hPX hDX hxy hk1 hFM hP3 hD3 hS
  refine W.widen (k := 58) (n := 825) (Nat.le_refl _) (Nat.le_refl _) ?_
  refine lv_astore_n (lv' := [(2, .ref y0), (1, .ref x0), (0, .ref b)]) hx hb dL_law_15 rfl hl (by decide) rfl (fun ls hl => ?_)
  refine lv_iconst (v := (0 : Int32)) hx hb dL_law_16 (by decide) ?_
  refine lv_istore_n (lv' := [(3, .int 0), (2, .ref y0), (1, .ref x0), (0, .ref b)]) hx hb dL_law_17 rfl hl (by decide) rfl (fun ls hl => ?_)
  refine zl_loop hL C1 hr hlocks (L + 1) 0 zI0 zM0 H1 locs ls (Nat.zero_le L) (by omega) hG zR_0 ?_
  rw [had, hbd]
  exact lv_sub hl [3, 2, 1, 0] rfl
