/-! the law's loop (the switch laid by wip/whole/genG.py) -/
theorem zl_6 {L i : Nat} (hL : L ≤ 3072) (hi : i ≤ L) (h : ¬ (Int32.ofNat L - 6 < nI i)) : i + 6 ≤ L := by
  rw [Int32.lt_iff_toInt_lt, Int32.toInt_sub, show (Int32.ofNat L).toInt = (L : Int) from nI_toInt (by omega), nI_toInt (by omega), show (6 : Int32).toInt = 6 from rfl, Int.bmod_eq_of_le (by omega) (by omega)] at h
  omega
set_option maxHeartbeats 4000000 in
theorem zl_sw {p : Program} {l : Launch} {e : Env} {s : State} {m : MethodId} {below : List Frame} {meth : Method} {c : Code} {H : Heap} {locs : List Loc} {Q : State → Prop} {ls : Array Slot} {D : va_G} {cA : Nat → ClassId} {ad bd : Nat → Nat} {I J : zxI} {b L : Nat} {xs : Nat → Int32} {v : Int32} (C0 : zlC p s m meth c b L xs) (hG : zl2 D cA shX ad I shM bd J s H locs) (h : zR I J) (hl : lv_has ls 4 [(0, .ref b), (1, .ref (ad 0)), (2, .ref (bd 0)), (3, .int v)]) (h1 : vp_in (v + 1) L) (h2 : vp_in (v + 2) L) (h3 : vp_in (v + 3) L) (h4 : vp_in (v + 4) L) (h5 : vp_in (v + 5) L) (kk : ∀ (H1 : Heap) (locs1 : List Loc) (I1 J1 : zxI), zl2 D cA shX ad I1 shM bd J1 s H1 locs1 → zR I1 J1 → W p l e room_1 s m #[Value.ref b] below meth c H1 locs1 58 825 Q (F0 m 1264 ls [])) (j : Nat) (hj : j < 32) : W p l e room_1 s m #[Value.ref b] below meth c H locs 58 825 Q (F0 m 33 ls [.int (nI j)]) :=
  match j, hj with
  | 0, _ => lv_tableIn (off := 143) (tgt := 176) C0.1 C0.2.1 dL_law_33 (by decide) (by decide) (by decide) (by decide) (zlc_0 C0 hG h hl h1 h2 h3 h4 h5 kk)
  | 1, _ => lv_tableIn (off := 196) (tgt := 229) C0.1 C0.2.1 dL_law_33 (by decide) (by decide) (by decide) (by decide) (zlc_1 C0 hG h hl h1 h2 h3 h4 h5 kk)
  | 2, _ => lv_tableIn (off := 229) (tgt := 262) C0.1 C0.2.1 dL_law_33 (by decide) (by decide) (by decide) (by decide) (zlc_2 C0 hG h hl h1 h2 h3 h4 h5 kk)
  | 3, _ => lv_tableIn (off := 252) (tgt := 285) C0.1 C0.2.1 dL_law_33 (by decide) (by decide) (by decide) (by decide) (zlc_3 C0 hG h hl h1 h2 h3 h4 h5 kk)
  | 4, _ => lv_tableIn (off := 285) (tgt := 318) C0.1 C0.2.1 dL_law_33 (by decide) (by decide) (by decide) (by decide) (zlc_4 C0 hG h hl h1 h2 h3 h4 h5 kk)
  | 5, _ => lv_tableIn (off := 318) (tgt := 351) C0.1 C0.2.1 dL_law_33 (by decide) (by decide) (by decide) (by decide) (zlc_5 C0 hG h hl h1 h2 h3 h4 h5 kk)
  | 6, _ => lv_tableIn (off := 351) (tgt := 384) C0.1 C0.2.1 dL_law_33 (by decide) (by decide) (by decide) (by decide) (zlc_6 C0 hG h hl h1 h2 h3 h4 h5 kk)
  | 7, _ => lv_tableIn (off := 384) (tgt := 417) C0.1 C0.2.1 dL_law_33 (by decide) (by decide) (by decide) (by decide) (zlc_7 C0 hG h hl h1 h2 h3 h4 h5 kk)
  | 8, _ => lv_tableIn (off := 407) (tgt := 440) C0.1 C0.2.1 dL_law_33 (by decide) (by decide) (by decide) (by decide) (zlc_8 C0 hG h hl h1 h2 h3 h4 h5 kk)
  | 9, _ => lv_tableIn (off := 430) (tgt := 463) C0.1 C0.2.1 dL_law_33 (by decide) (by decide) (by decide) (by decide) (zlc_9 C0 hG h hl h1 h2 h3 h4 h5 kk)
  | 10, _ => lv_tableIn (off := 493) (tgt := 526) C0.1 C0.2.1 dL_law_33 (by decide) (by decide) (by decide) (by decide) (zlc_10 C0 hG h hl h1 h2 h3 h4 h5 kk)
  | 11, _ => lv_tableIn (off := 556) (tgt := 589) C0.1 C0.2.1 dL_law_33 (by decide) (by decide) (by decide) (by decide) (zlc_11 C0 hG h hl h1 h2 h3 h4 h5 kk)
  | 12, _ => lv_tableIn (off := 619) (tgt := 652) C0.1 C0.2.1 dL_law_33 (by decide) (by decide) (by decide) (by decide) (zlc_12 C0 hG h hl h1 h2 h3 h4 h5 kk)
  | 13, _ => lv_tableIn (off := 632) (tgt := 665) C0.1 C0.2.1 dL_law_33 (by decide) (by decide) (by decide) (by decide) (zlc_13 C0 hG h hl h1 h2 h3 h4 h5 kk)
  | 14, _ => lv_tableIn (off := 665) (tgt := 698) C0.1 C0.2.1 dL_law_33 (by decide) (by decide) (by decide) (by decide) (zlc_14 C0 hG h hl h1 h2 h3 h4 h5 kk)
  | 15, _ => lv_tableIn (off := 688) (tgt := 721) C0.1 C0.2.1 dL_law_33 (by decide) (by decide) (by decide) (by decide) (zlc_15 C0 hG h hl h1 h2 h3 h4 h5 kk)
  | 16, _ => lv_tableIn (off := 741) (tgt := 774) C0.1 C0.2.1 dL_law_33 (by decide) (by decide) (by decide) (by decide) (zlc_16 C0 hG h hl h1 h2 h3 h4 h5 kk)
  | 17, _ => lv_tableIn (off := 784) (tgt := 817) C0.1 C0.2.1 dL_law_33 (by decide) (by decide) (by decide) (by decide) (zlc_17 C0 hG h hl h1 h2 h3 h4 h5 kk)
  | 18, _ => lv_tableIn (off := 807) (tgt := 840) C0.1 C0.2.1 dL_law_33 (by decide) (by decide) (by decide) (by decide) (zlc_18 C0 hG h hl h1 h2 h3 h4 h5 kk)
  | 19, _ => lv_tableIn (off := 830) (tgt := 863) C0.1 C0.2.1 dL_law_33 (by decide) (by decide) (by decide) (by decide) (zlc_19 C0 hG h hl h1 h2 h3 h4 h5 kk)
  | 20, _ => lv_tableIn (off := 853) (tgt := 886) C0.1 C0.2.1 dL_law_33 (by decide) (by decide) (by decide) (by decide) (zlc_20 C0 hG h hl h1 h2 h3 h4 h5 kk)
  | 21, _ => lv_tableIn (off := 887) (tgt := 920) C0.1 C0.2.1 dL_law_33 (by decide) (by decide) (by decide) (by decide) (zlc_21 C0 hG h hl h1 h2 h3 h4 h5 kk)
  | 22, _ => lv_tableIn (off := 930) (tgt := 963) C0.1 C0.2.1 dL_law_33 (by decide) (by decide) (by decide) (by decide) (zlc_22 C0 hG h hl h1 h2 h3 h4 h5 kk)
  | 23, _ => lv_tableIn (off := 953) (tgt := 986) C0.1 C0.2.1 dL_law_33 (by decide) (by decide) (by decide) (by decide) (zlc_23 C0 hG h hl h1 h2 h3 h4 h5 kk)
  | 24, _ => lv_tableIn (off := 996) (tgt := 1029) C0.1 C0.2.1 dL_law_33 (by decide) (by decide) (by decide) (by decide) (zlc_24 C0 hG h hl h1 h2 h3 h4 h5 kk)
  | 25, _ => lv_tableIn (off := 1040) (tgt := 1073) C0.1 C0.2.1 dL_law_33 (by decide) (by decide) (by decide) (by decide) (zlc_25 C0 hG h hl h1 h2 h3 h4 h5 kk)
  | 26, _ => lv_tableIn (off := 1103) (tgt := 1136) C0.1 C0.2.1 dL_law_33 (by decide) (by decide) (by decide) (by decide) (zlc_26 C0 hG h hl h1 h2 h3 h4 h5 kk)
  | 27, _ => lv_tableIn (off := 1126) (tgt := 1159) C0.1 C0.2.1 dL_law_33 (by decide) (by decide) (by decide) (by decide) (zlc_27 C0 hG h hl h1 h2 h3 h4 h5 kk)
  | 28, _ => lv_tableIn (off := 1149) (tgt := 1182) C0.1 C0.2.1 dL_law_33 (by decide) (by decide) (by decide) (by decide) (zlc_28 C0 hG h hl h1 h2 h3 h4 h5 kk)
  | 29, _ => lv_tableIn (off := 1182) (tgt := 1215) C0.1 C0.2.1 dL_law_33 (by decide) (by decide) (by decide) (by decide) (zlc_29 C0 hG h hl h1 h2 h3 h4 h5 kk)
  | 30, _ => lv_tableIn (off := 1195) (tgt := 1228) C0.1 C0.2.1 dL_law_33 (by decide) (by decide) (by decide) (by decide) (zlc_30 C0 hG h hl h1 h2 h3 h4 h5 kk)
  | 31, _ => lv_tableIn (off := 1208) (tgt := 1241) C0.1 C0.2.1 dL_law_33 (by decide) (by decide) (by decide) (by decide) (zlc_31 C0 hG h hl h1 h2 h3 h4 h5 kk)
  | j + 32, hj => absurd hj (by omega)
set_option maxHeartbeats 4000000 in
theorem zl_loop {p : Program} {l : Launch} {e : Env} {s : State} {m : MethodId} {below : List Frame} {meth : Method} {c : Code} {D : va_G} {cA : Nat → ClassId} {ad bd : Nat → Nat} {b L : Nat} {xs : Nat → Int32} (hL : L ≤ 3072) (C0 : zlC p s m meth c b L xs) (hr : meth.sig.returnType = ret) (hlocks : meth.locks = false) : ∀ (n i : Nat) (I J : zxI) (H : Heap) (locs : List Loc) (ls : Array Slot), i ≤ L → L + 1 ≤ i + n → zl2 D cA shX ad I shM bd J s H locs → zR I J → lv_has ls 4 [(0, .ref b), (1, .ref (ad 0)), (2, .ref (bd 0)), (3, .int (nI i))] → W p l e room_1 s m #[Value.ref b] below meth c H locs 58 825 (lw_Z below #[Value.ref b] s) (F0 m 18 ls []) := by
  obtain ⟨hx, hb, hml, hown, hts, hX, hbl⟩ := id C0
  have hbA : ¬ (fun q : Nat => s.heap.size ≤ q) b := Nat.not_le.mpr hbl
  intro n
  induction n with
  | zero =>
    intro i I J H locs ls h1 h2
    exact absurd h2 (by omega)
  | succ n ih =>
    intro i I J H locs ls hi hin hG h hl
    have hS := hG.2.2.2.2
    refine lv_iload_n hx hb dL_law_18 rfl (lv_at hl 3 rfl) ?_
    refine lv_aload_n hx hb dL_law_19 rfl (lv_at hl 0 rfl) ?_
    refine va_slen hx hb hX hbl hbA hS dL_law_20 ?_
    refine lv_bipush (v := (6 : Int32)) hx hb dL_law_21 (by decide) ?_
    refine lv_isub hx hb dL_law_23 ?_
    refine lv_icmp_gt (tgt := 1270) hx hb dL_law_24 (by decide) (fun _ => ?_) (fun c1 => ?_)
    · refine lv_iconst (v := (1 : Int32)) hx hb dL_law_1270 (by decide) ?_
      refine va_forget (fun q hq => hS.2.2 q hq) ?_
      refine W.widen (k := 600000) (n := 7302250) (Nat.le_of_ble_eq_true rfl) (Nat.le_of_ble_eq_true rfl) ?_
      exact lw_ret hx hb hr hlocks dL_law_1271
    · have h6 := zl_6 hL hi c1
      refine lv_aload_n hx hb dL_law_27 rfl (lv_at hl 0 rfl) ?_
      refine lv_iload_n hx hb dL_law_28 rfl (lv_at hl 3 rfl) ?_
      refine va_sld hx hb hX hbl hbA hS (vp_in_nI (show i < L by omega) (by omega)) dL_law_29 ?_
      refine lv_bipush (v := (31 : Int32)) hx hb dL_law_30 (by decide) ?_
      refine lv_iand hx hb dL_law_32 ?_
      obtain ⟨j, hj, ej⟩ := pk_andE (xs (nI i).toNatClampNeg) (m := 31) 5 (by decide)
      rw [ej]
      have in_ : ∀ k : Nat, k < 6 → vp_in (nI i + nI k) L := fun k hk => by
        rw [nI_add]
        exact vp_in_nI (by omega) (by omega)
      refine zl_sw C0 hG h hl (in_ 1 (by omega)) (in_ 2 (by omega)) (in_ 3 (by omega)) (in_ 4 (by omega)) (in_ 5 (by omega)) (fun H1 locs1 I1 J1 hG1 hR1 => ?_) j hj
      refine lv_iinc (v := nI (i + 6)) (lv' := [(3, .int (nI (i + 6))), (0, .ref b), (1, .ref (ad 0)), (2, .ref (bd 0))]) hx hb dL_law_1264 hl (k := 3) rfl (nI_add i 6) (by decide) rfl (fun ls hl => ?_)
      refine lv_goto (tgt := 18) hx hb dL_law_1267 (by decide) ?_
      exact ih (i + 6) I1 J1 H1 locs1 ls h6 (by omega) hG1 hR1 (lv_sub hl [1, 2, 3, 0] rfl)
