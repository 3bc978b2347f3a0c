/-! the law: two worlds side by side -/
def zlD (n1 : Nat) (a1 : Nat → Nat) (n2 : Nat) (a2 : Nat → Nat) (z : Nat) : Prop := (∀ i j : Nat, i < n1 → j < n1 → a1 i = a1 j → i = j) ∧ (∀ i j : Nat, i < n2 → j < n2 → a2 i = a2 j → i = j) ∧ (∀ i j : Nat, i < n1 → j < n2 → a1 i ≠ a2 j) ∧ (∀ i : Nat, i < n1 → z ≤ a1 i) ∧ ∀ j : Nat, j < n2 → z ≤ a2 j
def zl2 (D : va_G) (cA : Nat → ClassId) (S1 : List zxS) (a1 : Nat → Nat) (I1 : zxI) (S2 : List zxS) (a2 : Nat → Nat) (I2 : zxI) (s : State) (H : Heap) (locs : List Loc) : Prop := zxK D cA s ∧ va_P D vwCl (zxW S1 a1 cA I1) H ∧ va_P D vwCl (zxW S2 a2 cA I2) H ∧ zlD S1.length a1 S2.length a2 s.heap.size ∧ va_S (fun q : Nat => s.heap.size ≤ q) s.heap H locs
theorem zl2_swap {D : va_G} {cA : Nat → ClassId} {S1 : List zxS} {a1 : Nat → Nat} {I1 : zxI} {S2 : List zxS} {a2 : Nat → Nat} {I2 : zxI} {s : State} {H : Heap} {locs : List Loc} (h : zl2 D cA S1 a1 I1 S2 a2 I2 s H locs) : zl2 D cA S2 a2 I2 S1 a1 I1 s H locs := by
  obtain ⟨hK, h1, h2, ⟨d1, d2, d3, d4, d5⟩, hS⟩ := h
  exact ⟨hK, h2, h1, ⟨d2, d1, fun i j hi hj e => d3 j i hj hi e.symm, d5, d4⟩, hS⟩
theorem zl2_at {D : va_G} {cA : Nat → ClassId} {S1 : List zxS} {a1 : Nat → Nat} {I1 : zxI} {S2 : List zxS} {a2 : Nat → Nat} {I2 : zxI} {s : State} {H : Heap} {locs : List Loc} (h : zl2 D cA S1 a1 I1 S2 a2 I2 s H locs) : zxAt D S1 a1 cA I1 s s.heap.size H locs := by
  obtain ⟨hK, h1, h2, ⟨d1, d2, d3, d4, d5⟩, hS⟩ := h
  refine ⟨rfl, hK, h1, ⟨fun i j x y hx hy e => ?_, fun k x hx => ?_⟩, hS.1, fun q hq hA => ?_, fun l hl => ?_⟩
  · obtain ⟨g1, g2⟩ := zxW_of hx
    obtain ⟨g3, g4⟩ := zxW_of hy
    exact d1 i j g1 g3 (by rw [← g2, ← g4]; exact e)
  · obtain ⟨g1, g2⟩ := zxW_of hx
    exact Or.inl ⟨k, g1, g2⟩
  · exact hS.2.1 q hq (fun z => hA (Or.inr z))
  · exact Or.inr (hS.2.2 l hl)
section ZL
variable {p : Program} {l : Launch} {e : Env} {R : Room} {s : State} {m : MethodId} {args : Array Value} {below : List Frame} {meth : Method} {c : Code} {H : Heap} {locs : List Loc} {cells slots : Nat} {Q : State → Prop}
variable {cc : ByteArray} {pc : Nat} {ls : Array Slot} {rest : List Value} {D : va_G} {cA : Nat → ClassId} {S1 : List zxS} {a1 : Nat → Nat} {I1 : zxI} {S2 : List zxS} {a2 : Nat → Nat} {I2 : zxI}
theorem zl_free (hG : zl2 D cA S1 a1 I1 S2 a2 I2 s H locs) : ∀ q, zxA S1 a1 H.size q → s.heap.size ≤ q := by
  obtain ⟨hK, h1, h2, ⟨d1, d2, d3, d4, d5⟩, hS⟩ := hG
  intro q hq
  rcases hq with ⟨k, hk, rfl⟩ | hq
  · exact d4 k hk
  · exact Nat.le_trans hS.1 hq
theorem zl_after {J : zxI} {t : State} {H1 : Heap} {locs1 : List Loc} (hG : zl2 D cA S1 a1 I1 S2 a2 I2 s H locs) (ht : t.heap = H1) (hB : zxPost D S1 a1 cA H.size J t) (hk1 : ∀ q : Nat, q < H.size → ¬ zxA S1 a1 H.size q → H1[q]? = H[q]?) (hS1 : va_S (fun q : Nat => s.heap.size ≤ q) s.heap H1 locs1) : zl2 D cA S1 a1 J S2 a2 I2 s H1 locs1 := by
  obtain ⟨hK, h1, h2, hd, hS⟩ := hG
  obtain ⟨hP1, hD1⟩ := hB
  refine ⟨hK, by rw [← ht]; exact hP1, fun k x hx => ?_, hd, hS1⟩
  obtain ⟨d1, d2, d3, d4, d5⟩ := hd
  have hl := (h2 k x hx).lt
  obtain ⟨g1, g2⟩ := zxW_of hx
  refine (h2 k x hx).kept (hk1 x.1 hl (fun z => ?_))
  rcases z with ⟨i, hi, e⟩ | z
  · exact d3 i k hi g1 (by rw [← e, g2])
  · omega
theorem zl_calli {st0 : List Value} {a : Array Value} {r : Int32} {J : zxI} (hr : va_Run p l e R s m args below meth c H locs cells slots 0 0 (F0 m pc ls st0) rest (va_Qi (fun (r2 : Int32) (I2 : zxI) => r2 = r ∧ I2 = J) (zxPost D S1 a1 cA H.size) (zxA S1 a1 H.size) a) (zxA S1 a1 H.size)) (hG : zl2 D cA S1 a1 I1 S2 a2 I2 s H locs)
    (kk : ∀ (H1 : Heap) (locs1 : List Loc), zl2 D cA S1 a1 J S2 a2 I2 s H1 locs1 → W p l e R s m args below meth c H1 locs1 cells slots Q (F0 m (pc + 3) ls (.int r :: rest))) : W p l e R s m args below meth c H locs cells slots Q (F0 m pc ls st0) := by
  refine va_calli hr hG.2.2.2.2 (fun q _ h => zl_free hG q h) (zl_free hG) (fun r2 u t H1 locs1 ht hvm hw hB _ hk1 hS1 => ?_)
  obtain ⟨rfl, rfl⟩ := hw
  exact kk H1 locs1 (zl_after hG ht hB hk1 hS1)
theorem zl_calll {st0 : List Value} {a : Array Value} {r : Int64} {J : zxI} (hr : va_Run p l e R s m args below meth c H locs cells slots 0 0 (F0 m pc ls st0) rest (va_Ql (fun (r2 : Int64) (I2 : zxI) => r2 = r ∧ I2 = J) (zxPost D S1 a1 cA H.size) (zxA S1 a1 H.size) a) (zxA S1 a1 H.size)) (hG : zl2 D cA S1 a1 I1 S2 a2 I2 s H locs)
    (kk : ∀ (H1 : Heap) (locs1 : List Loc), zl2 D cA S1 a1 J S2 a2 I2 s H1 locs1 → W p l e R s m args below meth c H1 locs1 cells slots Q (F0 m (pc + 3) ls (.long r :: rest))) : W p l e R s m args below meth c H locs cells slots Q (F0 m pc ls st0) := by
  refine va_calll hr hG.2.2.2.2 (fun q _ h => zl_free hG q h) (zl_free hG) (fun r2 u t H1 locs1 ht hvm hw hB _ hk1 hS1 => ?_)
  obtain ⟨rfl, rfl⟩ := hw
  exact kk H1 locs1 (zl_after hG ht hB hk1 hS1)
theorem zl_preV (hG : zl2 D cA S1 a1 I1 S2 a2 I2 s H locs) {q ci : Nat} {sl : List (Option Nat)} (hS : S1[q]? = some (.inl (ci, sl))) {C : String} {T : u_T} {N : Nat} (hc : vwCl[ci]? = some (C, T, N)) {As : List Value} : PreV s H C (a1 q) (va_Pc (.ref (a1 q) :: As) (zxPre D S1 a1 cA I1 H.size)) As := zx_preV (zl2_at hG) hS hc
end ZL
theorem shX_len : shX.length = 42 := rfl
theorem shM_len : shM.length = 16 := rfl
/-- all that the law's rows stand on -/
def zlC (p : Program) (s : State) (m : MethodId) (meth : Method) (c : Code) (b L : Nat) (xs : Nat → Int32) : Prop := p.tables.exec = Jvm.exec ∧ c.code = cL_law ∧ c.maxLocals = 4 ∧ s.vm.findClass RL = some m.cls ∧ (∀ w ∈ wsL_law, w.before #[Value.ref b] s = true) ∧ va_X b L xs s s.heap ∧ b < s.heap.size
theorem zlC_of {p : Program} {s : State} {m : MethodId} {meth : Method} {c : Code} {b L : Nat} {xs : Nat → Int32} (hx : p.tables.exec = Jvm.exec) (hb : c.code = code) (hml : c.maxLocals = 4) (hown : s.vm.findClass "GalleryBirdsLaw" = some m.cls) (hts : ∀ w ∈ lw_tbl, w.before #[Value.ref b] s = true) (hX : va_X b L xs s s.heap) (hbl : b < s.heap.size) : zlC p s m meth c b L xs :=
  ⟨hx, hb, hml, hown, fun w hw => hts w (wsL_law_in w hw), hX, hbl⟩
