/-! worlds by shape: a shape is a list of cells; an object: its class's place and its fields (none: a number; some c: the cell c); an array of numbers; an array of references. All numbers of a world are one function: cell, place. -/
abbrev zxS : Type := (Nat × List (Option Nat)) ⊕ (Nat ⊕ (Nat × List Nat))
abbrev zxI : Type := Nat → Nat → Int32
def zxSl (ad : Nat → Nat) (f : Nat → Int32) (sl : List (Option Nat)) : List Value := sl.mapIdx (fun k o => match o with
  | none => Value.int (f k)
  | some d => Value.ref (ad d))
def zxE (ad : Nat → Nat) (cA : Nat → ClassId) (f : Nat → Int32) (sh : zxS) : va_E := match sh with
  | .inl o => .inr (o.1, zxSl ad f o.2)
  | .inr (.inl n) => .inl (cA 0, n, .inl f)
  | .inr (.inr a) => .inl (cA a.1, a.2.length, .inr (.inr (.inr (.inr (fun j => (a.2[j]?).map ad)))))
def zxW (S : List zxS) (ad : Nat → Nat) (cA : Nat → ClassId) (I : zxI) : va_W := S.mapIdx (fun q sh => (ad q, zxE ad cA (I q) sh))
def zxU (I : zxI) (q k : Nat) (v : Int32) : zxI := fun q' k' => if q' = q ∧ k' = k then v else I q' k'
def zxC (I : zxI) (q0 q1 sp dp n : Nat) : zxI := fun q' => if q' = q1 then va_cpy (I q0) (I q1) sp dp n else I q'
def zxIn (i : Int32) (n : Nat) : Bool := decide (¬ (i < 0 ∨ n ≤ i.toNatClampNeg))
theorem zx_in {i : Int32} {n : Nat} {α : Type} {a : Option α} {r : α} (h : (if zxIn i n = true then a else none) = some r) : vp_in i n ∧ a = some r := by
  by_cases c : zxIn i n = true
  · rw [if_pos c] at h
    have c2 : ¬ (i < 0 ∨ n ≤ i.toNatClampNeg) := of_decide_eq_true c
    exact ⟨c2, h⟩
  · rw [if_neg c] at h
    cases h
theorem zx_lt {i : Int32} {n : Nat} (h : vp_in i n) : i.toNatClampNeg < n := Nat.not_le.mp fun q => h (Or.inr q)
theorem zx_gd {c : Prop} [Decidable c] {α : Type} {a : Option α} {r : α} (h : (if c then a else none) = some r) : c ∧ a = some r := by
  by_cases d : c
  · rw [if_pos d] at h
    exact ⟨d, h⟩
  · rw [if_neg d] at h
    cases h
theorem zx_pos {c : Prop} [Decidable c] {α : Type} {a b : Option α} {r : Option α} (d : c) (h : (if c then a else b) = r) : a = r := by
  rw [if_pos d] at h
  exact h
theorem zx_neg {c : Prop} [Decidable c] {α : Type} {a b : Option α} {r : Option α} (d : ¬ c) (h : (if c then a else b) = r) : b = r := by
  rw [if_neg d] at h
  exact h
/-- a call, then the rest -/
def zxB {ρ β : Type} (a : Option (ρ × zxI)) (f : ρ → zxI → Option β) : Option β := match a with
  | none => none
  | some q => f q.1 q.2
def zxV {β : Type} (a : Option zxI) (f : zxI → Option β) : Option β := match a with
  | none => none
  | some q => f q
def zxL {β : Type} (e : Int32) (f : Int32 → Option β) : Option β := f e
theorem zx_l {β : Type} {e y : Int32} {f : Int32 → Option β} {r : Option β} (h : y = e) (hf : zxL e f = r) : f y = r := by
  subst h
  exact hf
theorem zx_b {ρ β : Type} {a : Option (ρ × zxI)} {f : ρ → zxI → Option β} {b : β} (h : zxB a f = some b) : ∃ (r : ρ) (J : zxI), a = some (r, J) ∧ f r J = some b := by
  cases a with
  | none => cases h
  | some q => exact ⟨q.1, q.2, rfl, h⟩
theorem zx_v {β : Type} {a : Option zxI} {f : zxI → Option β} {b : β} (h : zxV a f = some b) : ∃ (J : zxI), a = some J ∧ f J = some b := by
  cases a with
  | none => cases h
  | some q => exact ⟨q, rfl, h⟩
/-- the cells that a world may write, and those that are new -/
def zxA (S : List zxS) (ad : Nat → Nat) (sz : Nat) : Nat → Prop := fun a => (∃ q : Nat, q < S.length ∧ a = ad q) ∨ sz ≤ a
abbrev zxT (cA : Nat → ClassId) : List (ClassId × FieldType) := [(cA 0, .int), (cA 1, .object "GalleryBirds$Sheet"), (cA 2, .object "GalleryBirds$Air")]
abbrev zxNest : Cond := .methodLinkNest RX2 31 yX6_bearing RX6
def zxK (D : va_G) (cA : Nat → ClassId) (U : State) : Prop := va_K D vwCl (zxT cA) U ∧ va_Nw zxNest U
theorem zxK_warm {D : va_G} {cA : Nat → ClassId} {s U : State} (hW : s.WarmedH U.vm) (h : zxK D cA s) : zxK D cA U := ⟨va_K.moved hW.alike h.1, va_Nw.warmM hW h.2⟩
theorem zxK_call {D : va_G} {cA : Nat → ClassId} {U : State} {g : JFrame} {mk : MethodId} {a : Array Value} (h : zxK D cA U) : zxK D cA (U.calling g mk a) := ⟨va_K.moved (u := U) (U := U.calling g mk a) (Vm.Alike.refl U.vm) h.1, va_Nw.same rfl (u := U) (U := U.calling g mk a) rfl h.2⟩
def zxPre (D : va_G) (S : List zxS) (ad : Nat → Nat) (cA : Nat → ClassId) (I : zxI) (sz : Nat) : State → Prop := fun U => U.heap.size = sz ∧ va_P D vwCl (zxW S ad cA I) U.heap ∧ zxK D cA U ∧ va_D (fun _ => True) (zxW S ad cA I)
def zxPost (D : va_G) (S : List zxS) (ad : Nat → Nat) (cA : Nat → ClassId) (sz : Nat) : zxI → State → Prop := fun I t => va_P D vwCl (zxW S ad cA I) t.heap ∧ va_D (zxA S ad sz) (zxW S ad cA I)
def zxAt (D : va_G) (S : List zxS) (ad : Nat → Nat) (cA : Nat → ClassId) (I : zxI) (s : State) (sz : Nat) (H : Heap) (locs : List Loc) : Prop := s.heap.size = sz ∧ zxK D cA s ∧ va_P D vwCl (zxW S ad cA I) H ∧ va_D (zxA S ad sz) (zxW S ad cA I) ∧ va_S (zxA S ad sz) s.heap H locs
theorem zxA_mono {S : List zxS} {ad : Nat → Nat} {a b : Nat} (h : a ≤ b) : ∀ q : Nat, zxA S ad b q → zxA S ad a q := by
  intro q hq
  rcases hq with hq | hq
  · exact Or.inl hq
  · exact Or.inr (Nat.le_trans h hq)
theorem zxW_at {S : List zxS} {ad : Nat → Nat} {cA : Nat → ClassId} {I : zxI} {q : Nat} {sh : zxS} (h : S[q]? = some sh) : (zxW S ad cA I)[q]? = some (ad q, zxE ad cA (I q) sh) := by
  simp [zxW, List.getElem?_mapIdx, h]
theorem zxW_of {S : List zxS} {ad : Nat → Nat} {cA : Nat → ClassId} {I : zxI} {q : Nat} {x : Nat × va_E} (h : (zxW S ad cA I)[q]? = some x) : q < S.length ∧ x.1 = ad q := by
  simp only [zxW, List.getElem?_mapIdx] at h
  cases hq : S[q]? with
  | none => simp [hq] at h
  | some sh =>
    simp [hq] at h
    exact ⟨(List.getElem?_eq_some_iff.mp hq).1, by rw [← h]⟩
theorem zxSl_I {ad : Nat → Nat} {f : Nat → Int32} {sl : List (Option Nat)} {k : Nat} (h : sl[k]? = some none) : (zxSl ad f sl)[k]? = some (.int (f k)) := by
  simp [zxSl, List.getElem?_mapIdx, h]
theorem zxSl_R {ad : Nat → Nat} {f : Nat → Int32} {sl : List (Option Nat)} {k d : Nat} (h : sl[k]? = some (some d)) : (zxSl ad f sl)[k]? = some (.ref (ad d)) := by
  simp [zxSl, List.getElem?_mapIdx, h]
theorem zxSl_U {ad : Nat → Nat} {I : zxI} {q : Nat} {sl : List (Option Nat)} {k : Nat} {v : Int32} (h : sl[k]? = some none) : zxSl ad (zxU I q k v q) sl = (zxSl ad (I q) sl).set k (.int v) := by
  apply List.ext_getElem?
  intro i
  rw [List.getElem?_set]
  by_cases hi : k = i
  · subst hi
    have hl : k < sl.length := (List.getElem?_eq_some_iff.mp h).1
    rw [if_pos rfl, if_pos (by simp only [zxSl, List.length_mapIdx]; exact hl), zxSl_I h]
    simp [zxU]
  · rw [if_neg hi]
    simp only [zxSl, List.getElem?_mapIdx]
    have hz : zxU I q k v q i = I q i := by simp [zxU, Ne.symm hi]
    rw [hz]
theorem zxU_arr {I : zxI} {q k : Nat} {v : Int32} : zxU I q k v q = upd (I q) k v := by
  funext j
  simp [zxU, upd]
theorem zxU_ne {I : zxI} {q k q' : Nat} {v : Int32} (h : q' ≠ q) : zxU I q k v q' = I q' := by
  funext j
  simp [zxU, h]
theorem zxC_ne {I : zxI} {q0 q1 sp dp n q' : Nat} (h : q' ≠ q1) : zxC I q0 q1 sp dp n q' = I q' := by simp [zxC, h]
theorem zxW_set {S : List zxS} {ad : Nat → Nat} {cA : Nat → ClassId} {I J : zxI} {q : Nat} {sh : zxS} {e : va_E} (h : S[q]? = some sh) (hJ : ∀ q', q' ≠ q → J q' = I q') (he : zxE ad cA (J q) sh = e) : (zxW S ad cA I).set q (ad q, e) = zxW S ad cA J := by
  apply List.ext_getElem?
  intro i
  rw [List.getElem?_set]
  by_cases hi : q = i
  · subst hi
    have hl : q < S.length := (List.getElem?_eq_some_iff.mp h).1
    rw [if_pos rfl, if_pos (by simp only [zxW, List.length_mapIdx]; exact hl), zxW_at h, he]
  · rw [if_neg hi]
    simp only [zxW, List.getElem?_mapIdx]
    rw [hJ i (Ne.symm hi)]
section ZX
variable {p : Program} {l : Launch} {e : Env} {R : Room} {s : State} {m : MethodId} {args : Array Value} {below : List Frame} {meth : Method} {c : Code} {H : Heap} {locs : List Loc} {cells slots : Nat} {Q : State → Prop}
variable {cc : ByteArray} {pc : Nat} {ls : Array Slot} {rest : List Value} {D : va_G} {S : List zxS} {ad : Nat → Nat} {cA : Nat → ClassId} {I : zxI} {sz : Nat}
theorem zx_getI (hx : p.tables.exec = Jvm.exec) (hb : c.code = cc) {own C : String} {T : u_T} {N ci index : Nat} {Ts : List Cond} (hts : ∀ w ∈ Ts, w.before args s = true) (hin : ∀ w ∈ u_ws C T N, w ∈ Ts) (hown : s.vm.findClass own = some m.cls) (hG : zxAt D S ad cA I s sz H locs) {q : Nat} {sl : List (Option Nat)} (hS : S[q]? = some (.inl (ci, sl))) (hc : vwCl[ci]? = some (C, T, N)) (k : Nat) (hk : k < N) (hsl : sl[k]? = some none) (hlink : (Cond.fieldLink own index (T k).1 (T k).2.1 (T k).2.2.1).before args s = true) (hdg : decode cc pc = .ok (.getfield index, 3))
    (kk : W p l e R s m args below meth c H locs cells slots Q (F0 m (pc + 3) ls (.int (I q k) :: rest))) : W p l e R s m args below meth c H locs cells slots Q (F0 m pc ls (.ref (ad q) :: rest)) :=
  va_get hx hb hts hin hown hG.2.1.1 hG.2.2.1 q (zxW_at hS) hc k hk hlink (fun _ h => h) (zxSl_I hsl) hdg kk
theorem zx_getR (hx : p.tables.exec = Jvm.exec) (hb : c.code = cc) {own C : String} {T : u_T} {N ci index : Nat} {Ts : List Cond} (hts : ∀ w ∈ Ts, w.before args s = true) (hin : ∀ w ∈ u_ws C T N, w ∈ Ts) (hown : s.vm.findClass own = some m.cls) (hG : zxAt D S ad cA I s sz H locs) {q d : Nat} {sl : List (Option Nat)} (hS : S[q]? = some (.inl (ci, sl))) (hc : vwCl[ci]? = some (C, T, N)) (k : Nat) (hk : k < N) (hsl : sl[k]? = some (some d)) (hlink : (Cond.fieldLink own index (T k).1 (T k).2.1 (T k).2.2.1).before args s = true) (hdg : decode cc pc = .ok (.getfield index, 3))
    (kk : W p l e R s m args below meth c H locs cells slots Q (F0 m (pc + 3) ls (.ref (ad d) :: rest))) : W p l e R s m args below meth c H locs cells slots Q (F0 m pc ls (.ref (ad q) :: rest)) :=
  va_get hx hb hts hin hown hG.2.1.1 hG.2.2.1 q (zxW_at hS) hc k hk hlink (fun _ h => h) (zxSl_R hsl) hdg kk
theorem zx_putI (hx : p.tables.exec = Jvm.exec) (hb : c.code = cc) {own C : String} {T : u_T} {N ci index : Nat} {Ts : List Cond} (hts : ∀ w ∈ Ts, w.before args s = true) (hin : ∀ w ∈ u_ws C T N, w ∈ Ts) (ty0 : Nat → FieldType) (hty : ∀ k, k < N → parseFieldDescriptor (T k).2.2.1 = some (ty0 k)) (hnm : ∀ a, a < N → ∀ b, b < N → a ≠ b → (T a).2.1 ≠ (T b).2.1) (hown : s.vm.findClass own = some m.cls) (hG : zxAt D S ad cA I s sz H locs) {q : Nat} {sl : List (Option Nat)} (hS : S[q]? = some (.inl (ci, sl))) (hc : vwCl[ci]? = some (C, T, N)) (k : Nat) (hk : k < N) (hsl : sl[k]? = some none) (hlink : (Cond.fieldLink own index (T k).1 (T k).2.1 (T k).2.2.1).before args s = true) (hfin : (T k).2.2.2 = false) {ty : FieldType} {v : Int32} (hd : parseFieldDescriptor (T k).2.2.1 = some ty) (hn : narrow ty (.int v) = .int v) (hfit : fits ty (.int v) = true) (hdg : decode cc pc = .ok (.putfield index, 3))
    (kk : ∀ (H1 : Heap) (locs1 : List Loc), zxAt D S ad cA (zxU I q k v) s sz H1 locs1 → W p l e R s m args below meth c H1 locs1 cells slots Q (F0 m (pc + 3) ls rest)) : W p l e R s m args below meth c H locs cells slots Q (F0 m pc ls (.int v :: .ref (ad q) :: rest)) := by
  obtain ⟨g1, hK, hP, hD, hS0⟩ := hG
  have e1 : (zxW S ad cA I).set q (ad q, .inr (ci, (zxSl ad (I q) sl).set k (.int v))) = zxW S ad cA (zxU I q k v) :=
    zxW_set hS (fun q' h => zxU_ne h) (by show Sum.inr (ci, zxSl ad (zxU I q k v q) sl) = _; rw [zxSl_U hsl])
  refine va_put hx hb hts hin ty0 hty hnm hown hK.1 hP hD hS0 q (zxW_at hS) hc k hk hlink (fun _ h => h) hfin hd hn hfit (by show k < (zxSl ad (I q) sl).length; simp only [zxSl, List.length_mapIdx]; exact (List.getElem?_eq_some_iff.mp hsl).1) hdg (fun H1 locs1 hP1 hD1 hS1 => ?_)
  exact kk H1 locs1 ⟨g1, hK, by rw [← e1]; exact hP1, by rw [← e1]; exact hD1, hS1⟩
theorem zx_ald (hx : p.tables.exec = Jvm.exec) (hb : c.code = cc) (hG : zxAt D S ad cA I s sz H locs) {q n : Nat} (hS : S[q]? = some (.inr (.inl n))) {i : Int32} (hin : vp_in i n) (hdg : decode cc pc = .ok (.iaload, 1))
    (kk : W p l e R s m args below meth c H locs cells slots Q (F0 m (pc + 1) ls (.int (I q i.toNatClampNeg) :: rest))) : W p l e R s m args below meth c H locs cells slots Q (F0 m pc ls (.int i :: .ref (ad q) :: rest)) :=
  va_iald hx hb hG.2.1.1 hG.2.2.1 q 0 (zxW_at hS) rfl hin hdg kk
theorem zx_ast (hx : p.tables.exec = Jvm.exec) (hb : c.code = cc) (hG : zxAt D S ad cA I s sz H locs) {q n : Nat} (hS : S[q]? = some (.inr (.inl n))) {i x : Int32} (hin : vp_in i n) (hdg : decode cc pc = .ok (.iastore, 1))
    (kk : ∀ (H1 : Heap) (locs1 : List Loc), zxAt D S ad cA (zxU I q i.toNatClampNeg x) s sz H1 locs1 → W p l e R s m args below meth c H1 locs1 cells slots Q (F0 m (pc + 1) ls rest)) : W p l e R s m args below meth c H locs cells slots Q (F0 m pc ls (.int x :: .int i :: .ref (ad q) :: rest)) := by
  obtain ⟨g1, hK, hP, hD, hS0⟩ := hG
  have e1 : (zxW S ad cA I).set q (ad q, .inl (cA 0, n, .inl (upd (I q) i.toNatClampNeg x))) = zxW S ad cA (zxU I q i.toNatClampNeg x) :=
    zxW_set hS (fun q' h => zxU_ne h) (by show (Sum.inl (cA 0, n, Sum.inl (zxU I q i.toNatClampNeg x q)) : va_E) = _; rw [zxU_arr])
  refine va_iast hx hb hK.1 hP hD hS0 q 0 (zxW_at hS) rfl hin hdg (fun H1 locs1 hP1 hD1 hS1 => ?_)
  exact kk H1 locs1 ⟨g1, hK, by rw [← e1]; exact hP1, by rw [← e1]; exact hD1, hS1⟩
theorem zx_aldR (hx : p.tables.exec = Jvm.exec) (hb : c.code = cc) (hG : zxAt D S ad cA I s sz H locs) {q t d : Nat} {L : List Nat} {C : String} (hS : S[q]? = some (.inr (.inr (t, L)))) (ht : (zxT cA)[t]? = some (cA t, .object C)) {i : Int32} (hin : vp_in i L.length) (hd : L[i.toNatClampNeg]? = some d) (hdg : decode cc pc = .ok (.aaload, 1))
    (kk : W p l e R s m args below meth c H locs cells slots Q (F0 m (pc + 1) ls (.ref (ad d) :: rest))) : W p l e R s m args below meth c H locs cells slots Q (F0 m pc ls (.int i :: .ref (ad q) :: rest)) := by
  refine va_aldq hx hb hG.2.1.1 hG.2.2.1 q t (zxW_at hS) ht hin hdg ?_
  simp only [hd, Option.map_some]
  exact kk
theorem zx_copy (hx : p.tables.exec = Jvm.exec) (hb : c.code = cc) (hml : c.maxLocals = ls.size) {own : String} {index : Nat} (hown : s.vm.findClass own = some m.cls) (hlink : (Cond.methodLink own index arraycopyName).before args s = true) (hnat : (Cond.native arraycopyName).before args s = true) (hstat : (Cond.static arraycopyName).before args s = true) (hini : (Cond.initialized "java/lang/System").before args s = true)
    (hG : zxAt D S ad cA I s sz H locs) {q0 q1 n0 n1 : Nat} (hS0 : S[q0]? = some (.inr (.inl n0))) (hS1 : S[q1]? = some (.inr (.inl n1))) {sp dp n : Int32} (h1 : ¬ sp < 0) (h2 : ¬ dp < 0) (h3 : ¬ n < 0) (h4 : sp.toNatClampNeg + n.toNatClampNeg ≤ n0) (h5 : dp.toNatClampNeg + n.toNatClampNeg ≤ n1)
    (hframes : 1 ≤ R.frames) (hlocals : (rest.map fun v => v.category).sum + (nativeFrameWords "java/lang/System" "arraycopy" 5 + 11) ≤ R.locals) (hdg : decode cc pc = .ok (.invokestatic index, 3))
    (kk : ∀ (H1 : Heap) (locs1 : List Loc), zxAt D S ad cA (zxC I q0 q1 sp.toNatClampNeg dp.toNatClampNeg n.toNatClampNeg) s sz H1 locs1 → W p l e R s m args below meth c H1 locs1 cells slots Q (F0 m (pc + 3) ls rest)) : W p l e R s m args below meth c H locs cells slots Q (F0 m pc ls (.int n :: .int dp :: .ref (ad q1) :: .int sp :: .ref (ad q0) :: rest)) := by
  obtain ⟨g1, hK, hP, hD, hV⟩ := hG
  have e1 : (zxW S ad cA I).set q1 (ad q1, .inl (cA 0, n1, .inl (va_cpy (I q0) (I q1) sp.toNatClampNeg dp.toNatClampNeg n.toNatClampNeg))) = zxW S ad cA (zxC I q0 q1 sp.toNatClampNeg dp.toNatClampNeg n.toNatClampNeg) :=
    zxW_set hS1 (fun q' h => zxC_ne h) (by show (Sum.inl (cA 0, n1, Sum.inl (zxC I q0 q1 sp.toNatClampNeg dp.toNatClampNeg n.toNatClampNeg q1)) : va_E) = _; simp [zxC])
  refine va_copyi hx hb hml hown hlink hnat hstat hini hK.1 hP hD hV q0 q1 0 0 (zxW_at hS0) (zxW_at hS1) rfl rfl rfl h1 h2 h3 h4 h5 (fun i _ => rfl) hframes hlocals hdg (fun H1 locs1 hP1 hD1 hV1 => ?_)
  exact kk H1 locs1 ⟨g1, hK, by rw [← e1]; exact hP1, by rw [← e1]; exact hD1, hV1⟩
theorem zx_blind {av : List Value} {I : zxI} {sz : Nat} : FrameBlind (va_Pc av (zxPre D S ad cA I sz)) := by
  intro a U g mk h
  obtain ⟨h0, h1, h2, h3, h4⟩ := h
  exact ⟨h0, h1, h2, zxK_call h3, h4⟩
theorem zx_at (hG : zxAt D S ad cA I s sz H locs) {av : List Value} : ∀ U : State, U.heap = H → s.WarmedH U.vm → va_Pc av (zxPre D S ad cA I H.size) av.toArray U := by
  intro U hU hW
  exact ⟨rfl, by rw [hU], by rw [hU]; exact hG.2.2.1, zxK_warm hW hG.2.1, hG.2.2.2.1.weaken (fun _ _ _ _ => trivial)⟩
theorem zx_preV (hG : zxAt D S ad cA I s sz H locs) {q ci : Nat} {sl : List (Option Nat)} (hS : S[q]? = some (.inl (ci, sl))) {C : String} {T : u_T} {N : Nat} (hc : vwCl[ci]? = some (C, T, N)) {As : List Value} : PreV s H C (ad q) (va_Pc (.ref (ad q) :: As) (zxPre D S ad cA I H.size)) As :=
  ⟨zx_blind, va_recv hG.2.1.1 hG.2.2.1 hc (zxW_at hS), zx_at hG⟩
theorem zx_preS (hG : zxAt D S ad cA I s sz H locs) {As : List Value} : PreS s H (va_Pc As (zxPre D S ad cA I H.size)) As := ⟨zx_blind, zx_at hG⟩
theorem zx_after (hG : zxAt D S ad cA I s sz H locs) {t : State} {J : zxI} {H1 : Heap} {locs1 : List Loc} (ht : t.heap = H1) (hB : zxPost D S ad cA H.size J t) (hS1 : va_S (zxA S ad sz) s.heap H1 locs1) : zxAt D S ad cA J s sz H1 locs1 := by
  obtain ⟨hP1, hD1⟩ := hB
  have hz : sz ≤ H.size := by rw [← hG.1]; exact hG.2.2.2.2.1
  exact ⟨hG.1, hG.2.1, by rw [← ht]; exact hP1, hD1.weaken (fun _ x _ h => zxA_mono hz x.1 h), hS1⟩
theorem zx_calli {st0 : List Value} {a : Array Value} {r : Int32} {J : zxI} (hr : va_Run p l e R s m args below meth c H locs cells slots 0 0 (F0 m pc ls st0) rest (va_Qi (fun (r2 : Int32) (I2 : zxI) => r2 = r ∧ I2 = J) (zxPost D S ad cA H.size) (zxA S ad H.size) a) (zxA S ad H.size)) (hG : zxAt D S ad cA I s sz H locs)
    (kk : ∀ (H1 : Heap) (locs1 : List Loc), zxAt D S ad cA J s sz H1 locs1 → W p l e R s m args below meth c H1 locs1 cells slots Q (F0 m (pc + 3) ls (.int r :: rest))) : W p l e R s m args below meth c H locs cells slots Q (F0 m pc ls st0) := by
  have hz : sz ≤ H.size := by rw [← hG.1]; exact hG.2.2.2.2.1
  refine va_calli hr hG.2.2.2.2 (fun q _ h => zxA_mono hz q h) (zxA_mono hz) (fun r2 u t H1 locs1 ht hvm hw hB _ _ hS1 => ?_)
  obtain ⟨rfl, rfl⟩ := hw
  exact kk H1 locs1 (zx_after hG ht hB hS1)
theorem zx_calll {st0 : List Value} {a : Array Value} {r : Int64} {J : zxI} (hr : va_Run p l e R s m args below meth c H locs cells slots 0 0 (F0 m pc ls st0) rest (va_Ql (fun (r2 : Int64) (I2 : zxI) => r2 = r ∧ I2 = J) (zxPost D S ad cA H.size) (zxA S ad H.size) a) (zxA S ad H.size)) (hG : zxAt D S ad cA I s sz H locs)
    (kk : ∀ (H1 : Heap) (locs1 : List Loc), zxAt D S ad cA J s sz H1 locs1 → W p l e R s m args below meth c H1 locs1 cells slots Q (F0 m (pc + 3) ls (.long r :: rest))) : W p l e R s m args below meth c H locs cells slots Q (F0 m pc ls st0) := by
  have hz : sz ≤ H.size := by rw [← hG.1]; exact hG.2.2.2.2.1
  refine va_calll hr hG.2.2.2.2 (fun q _ h => zxA_mono hz q h) (zxA_mono hz) (fun r2 u t H1 locs1 ht hvm hw hB _ _ hS1 => ?_)
  obtain ⟨rfl, rfl⟩ := hw
  exact kk H1 locs1 (zx_after hG ht hB hS1)
theorem zx_callv {st0 : List Value} {a : Array Value} {J : zxI} (hr : va_Run p l e R s m args below meth c H locs cells slots 0 0 (F0 m pc ls st0) rest (va_Qv (fun (I2 : zxI) => I2 = J) (zxPost D S ad cA H.size) (zxA S ad H.size) a) (zxA S ad H.size)) (hG : zxAt D S ad cA I s sz H locs)
    (kk : ∀ (H1 : Heap) (locs1 : List Loc), zxAt D S ad cA J s sz H1 locs1 → W p l e R s m args below meth c H1 locs1 cells slots Q (F0 m (pc + 3) ls rest)) : W p l e R s m args below meth c H locs cells slots Q (F0 m pc ls st0) := by
  have hz : sz ≤ H.size := by rw [← hG.1]; exact hG.2.2.2.2.1
  refine va_callv hr hG.2.2.2.2 (fun q _ h => zxA_mono hz q h) (zxA_mono hz) (fun u t H1 locs1 ht hvm hw hB _ _ hS1 => ?_)
  subst hw
  exact kk H1 locs1 (zx_after hG ht hB hS1)
theorem zx_callr {st0 : List Value} {a : Array Value} {d : Nat} {J : zxI} (hr : va_Run p l e R s m args below meth c H locs cells slots 0 0 (F0 m pc ls st0) rest (va_Qr (fun (I2 : zxI) => I2 = J) (fun I2 a t => a = ad d ∧ zxPost D S ad cA H.size I2 t) (zxA S ad H.size) a) (zxA S ad H.size)) (hG : zxAt D S ad cA I s sz H locs)
    (kk : ∀ (H1 : Heap) (locs1 : List Loc), zxAt D S ad cA J s sz H1 locs1 → W p l e R s m args below meth c H1 locs1 cells slots Q (F0 m (pc + 3) ls (.ref (ad d) :: rest))) : W p l e R s m args below meth c H locs cells slots Q (F0 m pc ls st0) := by
  have hz : sz ≤ H.size := by rw [← hG.1]; exact hG.2.2.2.2.1
  refine va_callr hr hG.2.2.2.2 (fun q _ h => zxA_mono hz q h) (zxA_mono hz) (fun u a1 t H1 locs1 ht hvm hw hB _ _ hS1 => ?_)
  subst hw
  obtain ⟨rfl, hB⟩ := hB
  exact kk H1 locs1 (zx_after hG ht hB hS1)
theorem zx_iret {v r : Int32} {J : zxI} {ty : FieldType} (hx : p.tables.exec = Jvm.exec) (hb : c.code = cc) (hr : meth.sig.returnType = some ty) (hlocks : meth.locks = false) (hn : narrow ty (.int v) = .int v) (hG : zxAt D S ad cA I s sz H locs) (hf : some (v, I) = some (r, J)) (hdg : decode cc pc = .ok (.ireturn, 1)) : W p l e R s m args below meth c H locs cells slots (MQ below (va_Qi (fun (r2 : Int32) (I2 : zxI) => r2 = r ∧ I2 = J) (zxPost D S ad cA sz) (zxA S ad sz)) args s cells slots (zxA S ad sz)) (F0 m pc ls [.int v]) := by
  cases hf
  exact W.zret (v := v) hx hb hr hn (fun t ht hW => ⟨⟨v, I, rfl, ⟨rfl, rfl⟩, by rw [ht]; exact hG.2.2.1, hG.2.2.2.1⟩, hG.2.2.2.2.F ht⟩) hG.2.2.2.2.2.2 hdg hlocks
theorem zx_lret {v r : Int64} {J : zxI} (hx : p.tables.exec = Jvm.exec) (hb : c.code = cc) (hr : meth.sig.returnType = some .long) (hlocks : meth.locks = false) (hG : zxAt D S ad cA I s sz H locs) (hf : some (v, I) = some (r, J)) (hdg : decode cc pc = .ok (.lreturn, 1)) : W p l e R s m args below meth c H locs cells slots (MQ below (va_Ql (fun (r2 : Int64) (I2 : zxI) => r2 = r ∧ I2 = J) (zxPost D S ad cA sz) (zxA S ad sz)) args s cells slots (zxA S ad sz)) (F0 m pc ls [.long v]) := by
  cases hf
  exact W.lret (v := v) hx hb hr (fun t ht hW => ⟨⟨v, I, rfl, ⟨rfl, rfl⟩, by rw [ht]; exact hG.2.2.1, hG.2.2.2.1⟩, hG.2.2.2.2.F ht⟩) hG.2.2.2.2.2.2 hdg hlocks
theorem zx_vret {J : zxI} (hx : p.tables.exec = Jvm.exec) (hb : c.code = cc) (hr : meth.sig.returnType = none) (hlocks : meth.locks = false) (hG : zxAt D S ad cA I s sz H locs) (hf : some I = some J) (hdg : decode cc pc = .ok (.return_, 1)) : W p l e R s m args below meth c H locs cells slots (MQ below (va_Qv (fun (I2 : zxI) => I2 = J) (zxPost D S ad cA sz) (zxA S ad sz)) args s cells slots (zxA S ad sz)) (F0 m pc ls []) := by
  cases hf
  exact W.vret hx hb hr (fun t ht hW => ⟨⟨I, rfl, rfl, by rw [ht]; exact hG.2.2.1, hG.2.2.2.1⟩, hG.2.2.2.2.F ht⟩) hG.2.2.2.2.2.2 hdg hlocks
theorem zx_aret {d : Nat} {J : zxI} {rt : FieldType} (hx : p.tables.exec = Jvm.exec) (hb : c.code = cc) (hr : meth.sig.returnType = some rt) (hrt : (∃ n, rt = .object n) ∨ ∃ t, rt = .array t) (hlocks : meth.locks = false) (hG : zxAt D S ad cA I s sz H locs) (hf : some I = some J) (hdg : decode cc pc = .ok (.areturn, 1)) : W p l e R s m args below meth c H locs cells slots (MQ below (va_Qr (fun (I2 : zxI) => I2 = J) (fun I2 a t => a = ad d ∧ zxPost D S ad cA sz I2 t) (zxA S ad sz)) args s cells slots (zxA S ad sz)) (F0 m pc ls [.ref (ad d)]) := by
  cases hf
  exact W.aret (v := .ref (ad d)) hx hb hr hrt (Or.inr ⟨_, rfl⟩) (fun t ht hW => ⟨⟨I, ad d, rfl, rfl, rfl, by rw [ht]; exact hG.2.2.1, hG.2.2.2.1⟩, hG.2.2.2.2.F ht⟩) hG.2.2.2.2.2.2 hdg hlocks
end ZX
/-- a contract out of a walk of the body -/
theorem zx_start {l : Launch} {D : va_G} {S : List zxS} {ad : Nat → Nat} {cA : Nat → ClassId} {I : zxI} {sz : Nat} {y : MethodName} {ws ws' : List Cond} {rm : Room} {avs : List Value} {Qc : Array Value → State → Outcome → State → Prop} {cc : ByteArray} {maxL : Nat} {ret : Option FieldType} (hy : plainName y.cls = true) (hw : ws = Cond.code y cc maxL ret :: ws') (hlen : (lg_sl avs).length ≤ maxL)
    (body : ∀ (p : Program) (e : Env) (s : State) (m : MethodId) (args : Array Value) (below : List Frame) (meth : Method) (c : Code) (ls : Array Slot), p.tables.exec = Jvm.exec → c.code = cc → meth.sig.returnType = ret → (∀ w ∈ ws, w.before args s = true) → s.vm.findClass y.cls = some m.cls → meth.locks = false → c.maxLocals = maxL → zxAt D S ad cA I s sz s.heap [] → lv_has ls maxL (lv_args 0 avs) → W p l e (headSpec ws rm).room s m args below meth c s.heap [] 0 0 (MQ below Qc args s 0 0 (zxA S ad sz)) (F0 m 0 ls [])) : Met l y ws rm (va_Pc avs (zxPre D S ad cA I sz)) Qc 0 0 (zxA S ad sz) := by
  refine Met.ofW (cc := cc) (maxL := maxL) (ret := ret) hy hw ?_
  intro p e s m args below meth c s₁ B hml hv
  obtain ⟨rfl, hsz, hP, hK, hD⟩ := hv
  have hts : ∀ w ∈ ws, w.before avs.toArray s = true := atoms_spec (ws := ws) B.pre
  have hl := lv_entry avs (n := maxL) hlen
  rw [lg_entry_eq]
  have hD1 : va_D (zxA S ad sz) (zxW S ad cA I) := hD.weaken (fun k x hx _ => by
    obtain ⟨h1, h2⟩ := zxW_of hx
    exact Or.inl ⟨k, h1, h2⟩)
  exact body p e s m avs.toArray below meth c _ B.exec B.bytes B.returns hts (findClass_of_methodNamed B.named) B.notSynchronized hml ⟨hsz, hK, hP, hD1, va_S.rf⟩ hl
theorem zx_nz {v : Int32} (h : v = 0 ∨ v = 1) : narrow .boolean (.int v) = .int v := by
  rcases h with rfl | rfl <;> rfl
theorem zx_tabOut {x : Int32} (n : Nat) (hn : n < 2 ^ 31) (h : ∀ k : Nat, k ≤ n → ¬ x = nI k) : x.toInt < 0 ∨ (n : Int) < x.toInt := by
  rcases Int.lt_or_le x.toInt 0 with q | q
  · exact Or.inl q
  · refine Or.inr (Int.not_le.mp fun z => ?_)
    refine h x.toInt.toNat (by omega) (Int32.toInt_inj.mp ?_)
    rw [nI_toInt (by omega)]
    omega
theorem zx_neI {x : Int32} {k : Nat} (hk : k < 2 ^ 31) (h : ¬ x = nI k) : ¬ (k : Int) = x.toInt := by
  intro z
  exact h (Int32.toInt_inj.mp (by rw [nI_toInt hk]; exact z.symm))
theorem zx_lk0 {d k : Int} : Op.lookupswitch.offset [] d k = d := rfl
theorem zx_lk1 {a o d k : Int} {r : List (Int × Int)} {z : Int} (h : ¬ a = k) (hr : Op.lookupswitch.offset r d k = z) : Op.lookupswitch.offset ((a, o) :: r) d k = z := by
  show (if a = k then o else Op.lookupswitch.offset r d k) = z
  rw [if_neg h]
  exact hr
/-! the cells of the system: 0 the object; 1 its sheets; 2..9 sheets and their rows; 10..13 pit, bads, kinds, strengths; 14..29 airs and their fouls; 30 trials; 31..34 readings; 35..37 pairs; 38 orderRow; 39..41 seating -/
def zaO (j : Nat) : Nat := 14 + 2 * j
def zaF (j : Nat) : Nat := 15 + 2 * j
def zsO (k : Nat) : Nat := 2 + 2 * k
def zsC (k : Nat) : Nat := 3 + 2 * k
def shX : List zxS := [.inl (6, [some 1, some 10, some 14, some 31, some 35, some 30, some 38, some 39, none, none, none]), .inr (.inr (1, [2, 4, 6, 8])),
  .inl (5, [none, none, some 3, none]), .inr (.inl 60), .inl (5, [none, none, some 5, none]), .inr (.inl 60), .inl (5, [none, none, some 7, none]), .inr (.inl 60), .inl (5, [none, none, some 9, none]), .inr (.inl 60),
  .inl (2, [none, none, some 11, some 12, some 13, none]), .inr (.inl 4), .inr (.inl 6), .inr (.inl 6),
  .inl (0, [some 15, none]), .inr (.inl 6), .inl (0, [some 17, none]), .inr (.inl 6), .inl (0, [some 19, none]), .inr (.inl 6), .inl (0, [some 21, none]), .inr (.inl 6), .inl (0, [some 23, none]), .inr (.inl 6), .inl (0, [some 25, none]), .inr (.inl 6), .inl (0, [some 27, none]), .inr (.inl 6), .inl (0, [some 29, none]), .inr (.inl 6),
  .inr (.inr (2, [16, 18, 20, 22, 24, 26, 28])), .inl (3, [none, some 32, some 33, some 34]), .inr (.inl 8), .inr (.inl 8), .inr (.inl 8), .inl (1, [none, some 36, some 37]), .inr (.inl 20), .inr (.inl 20), .inr (.inl 6), .inl (4, [some 40, some 41, none]), .inr (.inl 6), .inr (.inl 6)]
theorem shX_0 : shX[0]? = some (.inl (6, [some 1, some 10, some 14, some 31, some 35, some 30, some 38, some 39, none, none, none])) := rfl
theorem shX_1 : shX[1]? = some (.inr (.inr (1, [2, 4, 6, 8]))) := rfl
theorem shX_10 : shX[10]? = some (.inl (2, [none, none, some 11, some 12, some 13, none])) := rfl
theorem shX_11 : shX[11]? = some (.inr (.inl 4)) := rfl
theorem shX_12 : shX[12]? = some (.inr (.inl 6)) := rfl
theorem shX_13 : shX[13]? = some (.inr (.inl 6)) := rfl
theorem shX_30 : shX[30]? = some (.inr (.inr (2, [16, 18, 20, 22, 24, 26, 28]))) := rfl
theorem shX_31 : shX[31]? = some (.inl (3, [none, some 32, some 33, some 34])) := rfl
theorem shX_32 : shX[32]? = some (.inr (.inl 8)) := rfl
theorem shX_33 : shX[33]? = some (.inr (.inl 8)) := rfl
theorem shX_34 : shX[34]? = some (.inr (.inl 8)) := rfl
theorem shX_35 : shX[35]? = some (.inl (1, [none, some 36, some 37])) := rfl
theorem shX_36 : shX[36]? = some (.inr (.inl 20)) := rfl
theorem shX_37 : shX[37]? = some (.inr (.inl 20)) := rfl
theorem shX_38 : shX[38]? = some (.inr (.inl 6)) := rfl
theorem shX_39 : shX[39]? = some (.inl (4, [some 40, some 41, none])) := rfl
theorem shX_40 : shX[40]? = some (.inr (.inl 6)) := rfl
theorem shX_41 : shX[41]? = some (.inr (.inl 6)) := rfl
theorem shX_aO {j : Nat} (h : j < 8) : shX[zaO j]? = some (.inl (0, [some (zaF j), none])) := by
  match j, h with
  | 0, _ => rfl
  | 1, _ => rfl
  | 2, _ => rfl
  | 3, _ => rfl
  | 4, _ => rfl
  | 5, _ => rfl
  | 6, _ => rfl
  | 7, _ => rfl
theorem shX_aF {j : Nat} (h : j < 8) : shX[zaF j]? = some (.inr (.inl 6)) := by
  match j, h with
  | 0, _ => rfl
  | 1, _ => rfl
  | 2, _ => rfl
  | 3, _ => rfl
  | 4, _ => rfl
  | 5, _ => rfl
  | 6, _ => rfl
  | 7, _ => rfl
theorem shX_sO {k : Nat} (h : k < 4) : shX[zsO k]? = some (.inl (5, [none, none, some (zsC k), none])) := by
  match k, h with
  | 0, _ => rfl
  | 1, _ => rfl
  | 2, _ => rfl
  | 3, _ => rfl
theorem shX_sC {k : Nat} (h : k < 4) : shX[zsC k]? = some (.inr (.inl 60)) := by
  match k, h with
  | 0, _ => rfl
  | 1, _ => rfl
  | 2, _ => rfl
  | 3, _ => rfl
theorem shX_rs {k : Nat} (h : k < 4) : ([2, 4, 6, 8] : List Nat)[k]? = some (zsO k) := by
  match k, h with
  | 0, _ => rfl
  | 1, _ => rfl
  | 2, _ => rfl
  | 3, _ => rfl
theorem shX_ra {k : Nat} (h : k < 7) : ([16, 18, 20, 22, 24, 26, 28] : List Nat)[k]? = some (zaO (k + 1)) := by
  match k, h with
  | 0, _ => rfl
  | 1, _ => rfl
  | 2, _ => rfl
  | 3, _ => rfl
  | 4, _ => rfl
  | 5, _ => rfl
  | 6, _ => rfl
/-! the reference's cells: 0 the object; 1 sorts, 2 sheetLong, 3 cells, 4 badOf, 5 kind, 6 foulNow, 7 strength, 8 readBad, 9 read, 10 keptFoul, 11 row, 12 perched, 13 readWhere, 14 readFoul, 15 readDropped -/
def shM : List zxS := [.inl (7, [none, none, some 1, some 2, some 3, none, none, none, none, none, some 4, some 5, some 6, some 7, none, none, none, some 8, some 9, some 10, none, none, none, some 11, some 12, none, some 13, some 14, some 15]), .inr (.inl 4), .inr (.inl 4), .inr (.inl 240), .inr (.inl 4), .inr (.inl 6), .inr (.inl 6), .inr (.inl 6), .inr (.inl 4), .inr (.inl 24), .inr (.inl 6), .inr (.inl 6), .inr (.inl 6), .inr (.inl 8), .inr (.inl 8), .inr (.inl 8)]
theorem shM_0 : shM[0]? = some (.inl (7, [none, none, some 1, some 2, some 3, none, none, none, none, none, some 4, some 5, some 6, some 7, none, none, none, some 8, some 9, some 10, none, none, none, some 11, some 12, none, some 13, some 14, some 15])) := rfl
theorem shM_1 : shM[1]? = some (.inr (.inl 4)) := rfl
theorem shM_2 : shM[2]? = some (.inr (.inl 4)) := rfl
theorem shM_3 : shM[3]? = some (.inr (.inl 240)) := rfl
theorem shM_4 : shM[4]? = some (.inr (.inl 4)) := rfl
theorem shM_5 : shM[5]? = some (.inr (.inl 6)) := rfl
theorem shM_6 : shM[6]? = some (.inr (.inl 6)) := rfl
theorem shM_7 : shM[7]? = some (.inr (.inl 6)) := rfl
theorem shM_8 : shM[8]? = some (.inr (.inl 4)) := rfl
theorem shM_9 : shM[9]? = some (.inr (.inl 24)) := rfl
theorem shM_10 : shM[10]? = some (.inr (.inl 6)) := rfl
theorem shM_11 : shM[11]? = some (.inr (.inl 6)) := rfl
theorem shM_12 : shM[12]? = some (.inr (.inl 6)) := rfl
theorem shM_13 : shM[13]? = some (.inr (.inl 8)) := rfl
theorem shM_14 : shM[14]? = some (.inr (.inl 8)) := rfl
theorem shM_15 : shM[15]? = some (.inr (.inl 8)) := rfl
theorem vc_0 : vwCl[0]? = some (RX0, TX0, 2) := rfl
theorem vc_1 : vwCl[1]? = some (RX1, TX1, 3) := rfl
theorem vc_2 : vwCl[2]? = some (RX2, TX2, 6) := rfl
theorem vc_3 : vwCl[3]? = some (RX3, TX3, 4) := rfl
theorem vc_4 : vwCl[4]? = some (RX4, TX4, 3) := rfl
theorem vc_5 : vwCl[5]? = some (RX5, TX5, 4) := rfl
theorem vc_6 : vwCl[6]? = some (RX6, TX6, 11) := rfl
theorem vc_7 : vwCl[7]? = some (RX7, TX7, 29) := rfl
