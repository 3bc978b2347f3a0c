/-! the law's cases (laid by wip/whole/genL.py) -/
set_option maxHeartbeats 4000000 in
set_option maxRecDepth 100000 in
theorem zlc_16 {p : Program} {l : Launch} {e : Env} {s : State} {m : MethodId} {below : List Frame} {meth : Method} {c : Code} {H : Heap} {locs : List Loc} {Q : State → Prop} {ls : Array Slot} {D : va_G} {cA : Nat → ClassId} {ad bd : Nat → Nat} {I J : zxI} {b L : Nat} {xs : Nat → Int32} {v : Int32} (C0 : zlC p s m meth c b L xs) (hG : zl2 D cA shX ad I shM bd J s H locs) (h : zR I J) (hl : lv_has ls 4 [(0, .ref b), (1, .ref (ad 0)), (2, .ref (bd 0)), (3, .int v)]) (h1 : vp_in (v + 1) L) (h2 : vp_in (v + 2) L) (h3 : vp_in (v + 3) L) (h4 : vp_in (v + 4) L) (h5 : vp_in (v + 5) L) (kk : ∀ (H1 : Heap) (locs1 : List Loc) (I1 J1 : zxI), zl2 D cA shX ad I1 shM bd J1 s H1 locs1 → zR I1 J1 → W p l e room_1 s m #[Value.ref b] below meth c H1 locs1 58 825 Q (F0 m 1264 ls [])) : W p l e room_1 s m #[Value.ref b] below meth c H locs 58 825 Q (F0 m 774 ls []) := by
  obtain ⟨hx, hb, hml, hown, hts, hX, hbl⟩ := C0
  have hbA : ¬ (fun q : Nat => s.heap.size ≤ q) b := Nat.not_le.mpr hbl
  obtain ⟨r, I1, J1, eX, eM, hR⟩ := zop_reading h (xs (v + 1).toNatClampNeg) (xs (v + 2).toNatClampNeg) (xs (v + 3).toNatClampNeg)
  refine lv_aload_n hx hb dL_law_774 rfl (lv_at hl 1 rfl) ?_
  refine lv_aload_n hx hb dL_law_775 rfl (lv_at hl 0 rfl) ?_
  refine lv_iload_n hx hb dL_law_776 rfl (lv_at hl 3 rfl) ?_
  refine lv_iconst (v := (1 : Int32)) hx hb dL_law_777 (by decide) ?_
  refine lv_iadd hx hb dL_law_778 ?_
  refine va_sld hx hb hX hbl hbA hG.2.2.2.2 h1 dL_law_779 ?_
  refine lv_aload_n hx hb dL_law_780 rfl (lv_at hl 0 rfl) ?_
  refine lv_iload_n hx hb dL_law_781 rfl (lv_at hl 3 rfl) ?_
  refine lv_iconst (v := (2 : Int32)) hx hb dL_law_782 (by decide) ?_
  refine lv_iadd hx hb dL_law_783 ?_
  refine va_sld hx hb hX hbl hbA hG.2.2.2.2 h2 dL_law_784 ?_
  refine lv_aload_n hx hb dL_law_785 rfl (lv_at hl 0 rfl) ?_
  refine lv_iload_n hx hb dL_law_786 rfl (lv_at hl 3 rfl) ?_
  refine lv_iconst (v := (3 : Int32)) hx hb dL_law_787 (by decide) ?_
  refine lv_iadd hx hb dL_law_788 ?_
  refine va_sld hx hb hX hbl hbA hG.2.2.2.2 h3 dL_law_789 ?_
  refine zl_calli (va_runV (As := [.int (xs (v + 1).toNatClampNeg), .int (xs (v + 2).toNatClampNeg), .int (xs (v + 3).toNatClampNeg)]) (rest := []) ⟨hx, hb, hml, hown, hts⟩ (mX6_reading l D ad cA (xs (v + 1).toNatClampNeg) (xs (v + 2).toNatClampNeg) (xs (v + 3).toNatClampNeg) I r I1 eX _) (cwV 3 hts gL_law_X6_reading rfl rfl rfl hd_X6_reading ⟨Nat.le_of_ble_eq_true rfl, Nat.le_of_ble_eq_true rfl⟩) (zl_preV hG shX_0 vc_6) rfl rfl hl.1 rfl (lv_room (Nat.le_of_ble_eq_true rfl)) dL_law_790 ⟨Nat.le_of_ble_eq_true rfl, Nat.le_of_ble_eq_true rfl⟩) hG (fun H locs hG => ?_)
  refine lv_aload_n hx hb dL_law_793 rfl (lv_at hl 2 rfl) ?_
  refine lv_aload_n hx hb dL_law_794 rfl (lv_at hl 0 rfl) ?_
  refine lv_iload_n hx hb dL_law_795 rfl (lv_at hl 3 rfl) ?_
  refine lv_iconst (v := (1 : Int32)) hx hb dL_law_796 (by decide) ?_
  refine lv_iadd hx hb dL_law_797 ?_
  refine va_sld hx hb hX hbl hbA hG.2.2.2.2 h1 dL_law_798 ?_
  refine lv_aload_n hx hb dL_law_799 rfl (lv_at hl 0 rfl) ?_
  refine lv_iload_n hx hb dL_law_800 rfl (lv_at hl 3 rfl) ?_
  refine lv_iconst (v := (2 : Int32)) hx hb dL_law_801 (by decide) ?_
  refine lv_iadd hx hb dL_law_802 ?_
  refine va_sld hx hb hX hbl hbA hG.2.2.2.2 h2 dL_law_803 ?_
  refine lv_aload_n hx hb dL_law_804 rfl (lv_at hl 0 rfl) ?_
  refine lv_iload_n hx hb dL_law_805 rfl (lv_at hl 3 rfl) ?_
  refine lv_iconst (v := (3 : Int32)) hx hb dL_law_806 (by decide) ?_
  refine lv_iadd hx hb dL_law_807 ?_
  refine va_sld hx hb hX hbl hbA hG.2.2.2.2 h3 dL_law_808 ?_
  refine zl_calli (va_runV (As := [.int (xs (v + 1).toNatClampNeg), .int (xs (v + 2).toNatClampNeg), .int (xs (v + 3).toNatClampNeg)]) (rest := [.int r]) ⟨hx, hb, hml, hown, hts⟩ (mX7_reading l D bd cA (xs (v + 1).toNatClampNeg) (xs (v + 2).toNatClampNeg) (xs (v + 3).toNatClampNeg) J r J1 eM _) (cwV 3 hts gL_law_X7_reading rfl rfl rfl hd_X7_reading ⟨Nat.le_of_ble_eq_true rfl, Nat.le_of_ble_eq_true rfl⟩) (zl_preV (zl2_swap hG) shM_0 vc_7) rfl rfl hl.1 rfl (lv_room (Nat.le_of_ble_eq_true rfl)) dL_law_809 ⟨Nat.le_of_ble_eq_true rfl, Nat.le_of_ble_eq_true rfl⟩) (zl2_swap hG) (fun H locs hG => ?_)
  refine lv_icmp_eq (tgt := 1264) hx hb dL_law_812 (by decide) (fun _ => ?_) (fun z => absurd rfl z)
  exact kk _ _ _ _ (zl2_swap hG) hR
set_option maxHeartbeats 4000000 in
set_option maxRecDepth 100000 in
theorem zlc_17 {p : Program} {l : Launch} {e : Env} {s : State} {m : MethodId} {below : List Frame} {meth : Method} {c : Code} {H : Heap} {locs : List Loc} {Q : State → Prop} {ls : Array Slot} {D : va_G} {cA : Nat → ClassId} {ad bd : Nat → Nat} {I J : zxI} {b L : Nat} {xs : Nat → Int32} {v : Int32} (C0 : zlC p s m meth c b L xs) (hG : zl2 D cA shX ad I shM bd J s H locs) (h : zR I J) (hl : lv_has ls 4 [(0, .ref b), (1, .ref (ad 0)), (2, .ref (bd 0)), (3, .int v)]) (h1 : vp_in (v + 1) L) (h2 : vp_in (v + 2) L) (h3 : vp_in (v + 3) L) (h4 : vp_in (v + 4) L) (h5 : vp_in (v + 5) L) (kk : ∀ (H1 : Heap) (locs1 : List Loc) (I1 J1 : zxI), zl2 D cA shX ad I1 shM bd J1 s H1 locs1 → zR I1 J1 → W p l e room_1 s m #[Value.ref b] below meth c H1 locs1 58 825 Q (F0 m 1264 ls [])) : W p l e room_1 s m #[Value.ref b] below meth c H locs 58 825 Q (F0 m 817 ls []) := by
  obtain ⟨hx, hb, hml, hown, hts, hX, hbl⟩ := C0
  have hbA : ¬ (fun q : Nat => s.heap.size ≤ q) b := Nat.not_le.mpr hbl
  obtain ⟨r, I1, J1, eX, eM, hR⟩ := zop_back h (xs (v + 1).toNatClampNeg)
  refine lv_aload_n hx hb dL_law_817 rfl (lv_at hl 1 rfl) ?_
  refine lv_aload_n hx hb dL_law_818 rfl (lv_at hl 0 rfl) ?_
  refine lv_iload_n hx hb dL_law_819 rfl (lv_at hl 3 rfl) ?_
  refine lv_iconst (v := (1 : Int32)) hx hb dL_law_820 (by decide) ?_
  refine lv_iadd hx hb dL_law_821 ?_
  refine va_sld hx hb hX hbl hbA hG.2.2.2.2 h1 dL_law_822 ?_
  refine zl_calli (va_runV (As := [.int (xs (v + 1).toNatClampNeg)]) (rest := []) ⟨hx, hb, hml, hown, hts⟩ (mX6_back l D ad cA (xs (v + 1).toNatClampNeg) I r I1 eX _) (cwV 1 hts gL_law_X6_back rfl rfl rfl hd_X6_back ⟨Nat.le_of_ble_eq_true rfl, Nat.le_of_ble_eq_true rfl⟩) (zl_preV hG shX_0 vc_6) rfl rfl hl.1 rfl (lv_room (Nat.le_of_ble_eq_true rfl)) dL_law_823 ⟨Nat.le_of_ble_eq_true rfl, Nat.le_of_ble_eq_true rfl⟩) hG (fun H locs hG => ?_)
  refine lv_aload_n hx hb dL_law_826 rfl (lv_at hl 2 rfl) ?_
  refine lv_aload_n hx hb dL_law_827 rfl (lv_at hl 0 rfl) ?_
  refine lv_iload_n hx hb dL_law_828 rfl (lv_at hl 3 rfl) ?_
  refine lv_iconst (v := (1 : Int32)) hx hb dL_law_829 (by decide) ?_
  refine lv_iadd hx hb dL_law_830 ?_
  refine va_sld hx hb hX hbl hbA hG.2.2.2.2 h1 dL_law_831 ?_
  refine zl_calli (va_runV (As := [.int (xs (v + 1).toNatClampNeg)]) (rest := [.int r]) ⟨hx, hb, hml, hown, hts⟩ (mX7_back l D bd cA (xs (v + 1).toNatClampNeg) J r J1 eM _) (cwV 1 hts gL_law_X7_back rfl rfl rfl hd_X7_back ⟨Nat.le_of_ble_eq_true rfl, Nat.le_of_ble_eq_true rfl⟩) (zl_preV (zl2_swap hG) shM_0 vc_7) rfl rfl hl.1 rfl (lv_room (Nat.le_of_ble_eq_true rfl)) dL_law_832 ⟨Nat.le_of_ble_eq_true rfl, Nat.le_of_ble_eq_true rfl⟩) (zl2_swap hG) (fun H locs hG => ?_)
  refine lv_icmp_eq (tgt := 1264) hx hb dL_law_835 (by decide) (fun _ => ?_) (fun z => absurd rfl z)
  exact kk _ _ _ _ (zl2_swap hG) hR
set_option maxHeartbeats 4000000 in
set_option maxRecDepth 100000 in
theorem zlc_18 {p : Program} {l : Launch} {e : Env} {s : State} {m : MethodId} {below : List Frame} {meth : Method} {c : Code} {H : Heap} {locs : List Loc} {Q : State → Prop} {ls : Array Slot} {D : va_G} {cA : Nat → ClassId} {ad bd : Nat → Nat} {I J : zxI} {b L : Nat} {xs : Nat → Int32} {v : Int32} (C0 : zlC p s m meth c b L xs) (hG : zl2 D cA shX ad I shM bd J s H locs) (h : zR I J) (hl : lv_has ls 4 [(0, .ref b), (1, .ref (ad 0)), (2, .ref (bd 0)), (3, .int v)]) (h1 : vp_in (v + 1) L) (h2 : vp_in (v + 2) L) (h3 : vp_in (v + 3) L) (h4 : vp_in (v + 4) L) (h5 : vp_in (v + 5) L) (kk : ∀ (H1 : Heap) (locs1 : List Loc) (I1 J1 : zxI), zl2 D cA shX ad I1 shM bd J1 s H1 locs1 → zR I1 J1 → W p l e room_1 s m #[Value.ref b] below meth c H1 locs1 58 825 Q (F0 m 1264 ls [])) : W p l e room_1 s m #[Value.ref b] below meth c H locs 58 825 Q (F0 m 840 ls []) := by
  obtain ⟨hx, hb, hml, hown, hts, hX, hbl⟩ := C0
  have hbA : ¬ (fun q : Nat => s.heap.size ≤ q) b := Nat.not_le.mpr hbl
  obtain ⟨r, I1, J1, eX, eM, hR⟩ := zop_strengths h (xs (v + 1).toNatClampNeg)
  refine lv_aload_n hx hb dL_law_840 rfl (lv_at hl 1 rfl) ?_
  refine lv_aload_n hx hb dL_law_841 rfl (lv_at hl 0 rfl) ?_
  refine lv_iload_n hx hb dL_law_842 rfl (lv_at hl 3 rfl) ?_
  refine lv_iconst (v := (1 : Int32)) hx hb dL_law_843 (by decide) ?_
  refine lv_iadd hx hb dL_law_844 ?_
  refine va_sld hx hb hX hbl hbA hG.2.2.2.2 h1 dL_law_845 ?_
  refine zl_calli (va_runV (As := [.int (xs (v + 1).toNatClampNeg)]) (rest := []) ⟨hx, hb, hml, hown, hts⟩ (mX6_strengths l D ad cA (xs (v + 1).toNatClampNeg) I r I1 eX _) (cwV 1 hts gL_law_X6_strengths rfl rfl rfl hd_X6_strengths ⟨Nat.le_of_ble_eq_true rfl, Nat.le_of_ble_eq_true rfl⟩) (zl_preV hG shX_0 vc_6) rfl rfl hl.1 rfl (lv_room (Nat.le_of_ble_eq_true rfl)) dL_law_846 ⟨Nat.le_of_ble_eq_true rfl, Nat.le_of_ble_eq_true rfl⟩) hG (fun H locs hG => ?_)
  refine lv_aload_n hx hb dL_law_849 rfl (lv_at hl 2 rfl) ?_
  refine lv_aload_n hx hb dL_law_850 rfl (lv_at hl 0 rfl) ?_
  refine lv_iload_n hx hb dL_law_851 rfl (lv_at hl 3 rfl) ?_
  refine lv_iconst (v := (1 : Int32)) hx hb dL_law_852 (by decide) ?_
  refine lv_iadd hx hb dL_law_853 ?_
  refine va_sld hx hb hX hbl hbA hG.2.2.2.2 h1 dL_law_854 ?_
  refine zl_calli (va_runV (As := [.int (xs (v + 1).toNatClampNeg)]) (rest := [.int r]) ⟨hx, hb, hml, hown, hts⟩ (mX7_strengths l D bd cA (xs (v + 1).toNatClampNeg) J r J1 eM _) (cwV 1 hts gL_law_X7_strengths rfl rfl rfl hd_X7_strengths ⟨Nat.le_of_ble_eq_true rfl, Nat.le_of_ble_eq_true rfl⟩) (zl_preV (zl2_swap hG) shM_0 vc_7) rfl rfl hl.1 rfl (lv_room (Nat.le_of_ble_eq_true rfl)) dL_law_855 ⟨Nat.le_of_ble_eq_true rfl, Nat.le_of_ble_eq_true rfl⟩) (zl2_swap hG) (fun H locs hG => ?_)
  refine lv_icmp_eq (tgt := 1264) hx hb dL_law_858 (by decide) (fun _ => ?_) (fun z => absurd rfl z)
  exact kk _ _ _ _ (zl2_swap hG) hR
set_option maxHeartbeats 4000000 in
set_option maxRecDepth 100000 in
theorem zlc_19 {p : Program} {l : Launch} {e : Env} {s : State} {m : MethodId} {below : List Frame} {meth : Method} {c : Code} {H : Heap} {locs : List Loc} {Q : State → Prop} {ls : Array Slot} {D : va_G} {cA : Nat → ClassId} {ad bd : Nat → Nat} {I J : zxI} {b L : Nat} {xs : Nat → Int32} {v : Int32} (C0 : zlC p s m meth c b L xs) (hG : zl2 D cA shX ad I shM bd J s H locs) (h : zR I J) (hl : lv_has ls 4 [(0, .ref b), (1, .ref (ad 0)), (2, .ref (bd 0)), (3, .int v)]) (h1 : vp_in (v + 1) L) (h2 : vp_in (v + 2) L) (h3 : vp_in (v + 3) L) (h4 : vp_in (v + 4) L) (h5 : vp_in (v + 5) L) (kk : ∀ (H1 : Heap) (locs1 : List Loc) (I1 J1 : zxI), zl2 D cA shX ad I1 shM bd J1 s H1 locs1 → zR I1 J1 → W p l e room_1 s m #[Value.ref b] below meth c H1 locs1 58 825 Q (F0 m 1264 ls [])) : W p l e room_1 s m #[Value.ref b] below meth c H locs 58 825 Q (F0 m 863 ls []) := by
  obtain ⟨hx, hb, hml, hown, hts, hX, hbl⟩ := C0
  have hbA : ¬ (fun q : Nat => s.heap.size ≤ q) b := Nat.not_le.mpr hbl
  obtain ⟨r, I1, J1, eX, eM, hR⟩ := zop_kinds h (xs (v + 1).toNatClampNeg)
  refine lv_aload_n hx hb dL_law_863 rfl (lv_at hl 1 rfl) ?_
  refine lv_aload_n hx hb dL_law_864 rfl (lv_at hl 0 rfl) ?_
  refine lv_iload_n hx hb dL_law_865 rfl (lv_at hl 3 rfl) ?_
  refine lv_iconst (v := (1 : Int32)) hx hb dL_law_866 (by decide) ?_
  refine lv_iadd hx hb dL_law_867 ?_
  refine va_sld hx hb hX hbl hbA hG.2.2.2.2 h1 dL_law_868 ?_
  refine zl_calli (va_runV (As := [.int (xs (v + 1).toNatClampNeg)]) (rest := []) ⟨hx, hb, hml, hown, hts⟩ (mX6_kinds l D ad cA (xs (v + 1).toNatClampNeg) I r I1 eX _) (cwV 1 hts gL_law_X6_kinds rfl rfl rfl hd_X6_kinds ⟨Nat.le_of_ble_eq_true rfl, Nat.le_of_ble_eq_true rfl⟩) (zl_preV hG shX_0 vc_6) rfl rfl hl.1 rfl (lv_room (Nat.le_of_ble_eq_true rfl)) dL_law_869 ⟨Nat.le_of_ble_eq_true rfl, Nat.le_of_ble_eq_true rfl⟩) hG (fun H locs hG => ?_)
  refine lv_aload_n hx hb dL_law_872 rfl (lv_at hl 2 rfl) ?_
  refine lv_aload_n hx hb dL_law_873 rfl (lv_at hl 0 rfl) ?_
  refine lv_iload_n hx hb dL_law_874 rfl (lv_at hl 3 rfl) ?_
  refine lv_iconst (v := (1 : Int32)) hx hb dL_law_875 (by decide) ?_
  refine lv_iadd hx hb dL_law_876 ?_
  refine va_sld hx hb hX hbl hbA hG.2.2.2.2 h1 dL_law_877 ?_
  refine zl_calli (va_runV (As := [.int (xs (v + 1).toNatClampNeg)]) (rest := [.int r]) ⟨hx, hb, hml, hown, hts⟩ (mX7_kinds l D bd cA (xs (v + 1).toNatClampNeg) J r J1 eM _) (cwV 1 hts gL_law_X7_kinds rfl rfl rfl hd_X7_kinds ⟨Nat.le_of_ble_eq_true rfl, Nat.le_of_ble_eq_true rfl⟩) (zl_preV (zl2_swap hG) shM_0 vc_7) rfl rfl hl.1 rfl (lv_room (Nat.le_of_ble_eq_true rfl)) dL_law_878 ⟨Nat.le_of_ble_eq_true rfl, Nat.le_of_ble_eq_true rfl⟩) (zl2_swap hG) (fun H locs hG => ?_)
  refine lv_icmp_eq (tgt := 1264) hx hb dL_law_881 (by decide) (fun _ => ?_) (fun z => absurd rfl z)
  exact kk _ _ _ _ (zl2_swap hG) hR
set_option maxHeartbeats 4000000 in
set_option maxRecDepth 100000 in
theorem zlc_20 {p : Program} {l : Launch} {e : Env} {s : State} {m : MethodId} {below : List Frame} {meth : Method} {c : Code} {H : Heap} {locs : List Loc} {Q : State → Prop} {ls : Array Slot} {D : va_G} {cA : Nat → ClassId} {ad bd : Nat → Nat} {I J : zxI} {b L : Nat} {xs : Nat → Int32} {v : Int32} (C0 : zlC p s m meth c b L xs) (hG : zl2 D cA shX ad I shM bd J s H locs) (h : zR I J) (hl : lv_has ls 4 [(0, .ref b), (1, .ref (ad 0)), (2, .ref (bd 0)), (3, .int v)]) (h1 : vp_in (v + 1) L) (h2 : vp_in (v + 2) L) (h3 : vp_in (v + 3) L) (h4 : vp_in (v + 4) L) (h5 : vp_in (v + 5) L) (kk : ∀ (H1 : Heap) (locs1 : List Loc) (I1 J1 : zxI), zl2 D cA shX ad I1 shM bd J1 s H1 locs1 → zR I1 J1 → W p l e room_1 s m #[Value.ref b] below meth c H1 locs1 58 825 Q (F0 m 1264 ls [])) : W p l e room_1 s m #[Value.ref b] below meth c H locs 58 825 Q (F0 m 886 ls []) := by
  obtain ⟨hx, hb, hml, hown, hts, hX, hbl⟩ := C0
  have hbA : ¬ (fun q : Nat => s.heap.size ≤ q) b := Nat.not_le.mpr hbl
  obtain ⟨r, I1, J1, eX, eM, hR⟩ := zop_odds h (xs (v + 1).toNatClampNeg) (xs (v + 2).toNatClampNeg)
  refine lv_aload_n hx hb dL_law_886 rfl (lv_at hl 1 rfl) ?_
  refine lv_aload_n hx hb dL_law_887 rfl (lv_at hl 0 rfl) ?_
  refine lv_iload_n hx hb dL_law_888 rfl (lv_at hl 3 rfl) ?_
  refine lv_iconst (v := (1 : Int32)) hx hb dL_law_889 (by decide) ?_
  refine lv_iadd hx hb dL_law_890 ?_
  refine va_sld hx hb hX hbl hbA hG.2.2.2.2 h1 dL_law_891 ?_
  refine lv_aload_n hx hb dL_law_892 rfl (lv_at hl 0 rfl) ?_
  refine lv_iload_n hx hb dL_law_893 rfl (lv_at hl 3 rfl) ?_
  refine lv_iconst (v := (2 : Int32)) hx hb dL_law_894 (by decide) ?_
  refine lv_iadd hx hb dL_law_895 ?_
  refine va_sld hx hb hX hbl hbA hG.2.2.2.2 h2 dL_law_896 ?_
  refine zl_calll (va_runV (As := [.int (xs (v + 1).toNatClampNeg), .int (xs (v + 2).toNatClampNeg)]) (rest := []) ⟨hx, hb, hml, hown, hts⟩ (mX6_odds l D ad cA (xs (v + 1).toNatClampNeg) (xs (v + 2).toNatClampNeg) I r I1 eX _) (cwV 2 hts gL_law_X6_odds rfl rfl rfl hd_X6_odds ⟨Nat.le_of_ble_eq_true rfl, Nat.le_of_ble_eq_true rfl⟩) (zl_preV hG shX_0 vc_6) rfl rfl hl.1 rfl (lv_room (Nat.le_of_ble_eq_true rfl)) dL_law_897 ⟨Nat.le_of_ble_eq_true rfl, Nat.le_of_ble_eq_true rfl⟩) hG (fun H locs hG => ?_)
  refine lv_aload_n hx hb dL_law_900 rfl (lv_at hl 2 rfl) ?_
  refine lv_aload_n hx hb dL_law_901 rfl (lv_at hl 0 rfl) ?_
  refine lv_iload_n hx hb dL_law_902 rfl (lv_at hl 3 rfl) ?_
  refine lv_iconst (v := (1 : Int32)) hx hb dL_law_903 (by decide) ?_
  refine lv_iadd hx hb dL_law_904 ?_
  refine va_sld hx hb hX hbl hbA hG.2.2.2.2 h1 dL_law_905 ?_
  refine lv_aload_n hx hb dL_law_906 rfl (lv_at hl 0 rfl) ?_
  refine lv_iload_n hx hb dL_law_907 rfl (lv_at hl 3 rfl) ?_
  refine lv_iconst (v := (2 : Int32)) hx hb dL_law_908 (by decide) ?_
  refine lv_iadd hx hb dL_law_909 ?_
  refine va_sld hx hb hX hbl hbA hG.2.2.2.2 h2 dL_law_910 ?_
  refine zl_calll (va_runV (As := [.int (xs (v + 1).toNatClampNeg), .int (xs (v + 2).toNatClampNeg)]) (rest := [.long r]) ⟨hx, hb, hml, hown, hts⟩ (mX7_odds l D bd cA (xs (v + 1).toNatClampNeg) (xs (v + 2).toNatClampNeg) J r J1 eM _) (cwV 2 hts gL_law_X7_odds rfl rfl rfl hd_X7_odds ⟨Nat.le_of_ble_eq_true rfl, Nat.le_of_ble_eq_true rfl⟩) (zl_preV (zl2_swap hG) shM_0 vc_7) rfl rfl hl.1 rfl (lv_room (Nat.le_of_ble_eq_true rfl)) dL_law_911 ⟨Nat.le_of_ble_eq_true rfl, Nat.le_of_ble_eq_true rfl⟩) (zl2_swap hG) (fun H locs hG => ?_)
  refine W.lcmp hx hb dL_law_914 ?_
  refine lv_if_eq (tgt := 1264) hx hb dL_law_915 (by decide) (fun _ => ?_) (fun z => absurd (lg_cmp_self r) z)
  exact kk _ _ _ _ (zl2_swap hG) hR
set_option maxHeartbeats 4000000 in
set_option maxRecDepth 100000 in
theorem zlc_21 {p : Program} {l : Launch} {e : Env} {s : State} {m : MethodId} {below : List Frame} {meth : Method} {c : Code} {H : Heap} {locs : List Loc} {Q : State → Prop} {ls : Array Slot} {D : va_G} {cA : Nat → ClassId} {ad bd : Nat → Nat} {I J : zxI} {b L : Nat} {xs : Nat → Int32} {v : Int32} (C0 : zlC p s m meth c b L xs) (hG : zl2 D cA shX ad I shM bd J s H locs) (h : zR I J) (hl : lv_has ls 4 [(0, .ref b), (1, .ref (ad 0)), (2, .ref (bd 0)), (3, .int v)]) (h1 : vp_in (v + 1) L) (h2 : vp_in (v + 2) L) (h3 : vp_in (v + 3) L) (h4 : vp_in (v + 4) L) (h5 : vp_in (v + 5) L) (kk : ∀ (H1 : Heap) (locs1 : List Loc) (I1 J1 : zxI), zl2 D cA shX ad I1 shM bd J1 s H1 locs1 → zR I1 J1 → W p l e room_1 s m #[Value.ref b] below meth c H1 locs1 58 825 Q (F0 m 1264 ls [])) : W p l e room_1 s m #[Value.ref b] below meth c H locs 58 825 Q (F0 m 920 ls []) := by
  obtain ⟨hx, hb, hml, hown, hts, hX, hbl⟩ := C0
  have hbA : ¬ (fun q : Nat => s.heap.size ≤ q) b := Nat.not_le.mpr hbl
  obtain ⟨r, I1, J1, eX, eM, hR⟩ := zop_sheet h (xs (v + 1).toNatClampNeg) (xs (v + 2).toNatClampNeg) (xs (v + 3).toNatClampNeg)
  refine lv_aload_n hx hb dL_law_920 rfl (lv_at hl 1 rfl) ?_
  refine lv_aload_n hx hb dL_law_921 rfl (lv_at hl 0 rfl) ?_
  refine lv_iload_n hx hb dL_law_922 rfl (lv_at hl 3 rfl) ?_
  refine lv_iconst (v := (1 : Int32)) hx hb dL_law_923 (by decide) ?_
  refine lv_iadd hx hb dL_law_924 ?_
  refine va_sld hx hb hX hbl hbA hG.2.2.2.2 h1 dL_law_925 ?_
  refine lv_aload_n hx hb dL_law_926 rfl (lv_at hl 0 rfl) ?_
  refine lv_iload_n hx hb dL_law_927 rfl (lv_at hl 3 rfl) ?_
  refine lv_iconst (v := (2 : Int32)) hx hb dL_law_928 (by decide) ?_
  refine lv_iadd hx hb dL_law_929 ?_
  refine va_sld hx hb hX hbl hbA hG.2.2.2.2 h2 dL_law_930 ?_
  refine lv_aload_n hx hb dL_law_931 rfl (lv_at hl 0 rfl) ?_
  refine lv_iload_n hx hb dL_law_932 rfl (lv_at hl 3 rfl) ?_
  refine lv_iconst (v := (3 : Int32)) hx hb dL_law_933 (by decide) ?_
  refine lv_iadd hx hb dL_law_934 ?_
  refine va_sld hx hb hX hbl hbA hG.2.2.2.2 h3 dL_law_935 ?_
  refine zl_calli (va_runV (As := [.int (xs (v + 1).toNatClampNeg), .int (xs (v + 2).toNatClampNeg), .int (xs (v + 3).toNatClampNeg)]) (rest := []) ⟨hx, hb, hml, hown, hts⟩ (mX6_sheet l D ad cA (xs (v + 1).toNatClampNeg) (xs (v + 2).toNatClampNeg) (xs (v + 3).toNatClampNeg) I r I1 eX _) (cwV 3 hts gL_law_X6_sheet rfl rfl rfl hd_X6_sheet ⟨Nat.le_of_ble_eq_true rfl, Nat.le_of_ble_eq_true rfl⟩) (zl_preV hG shX_0 vc_6) rfl rfl hl.1 rfl (lv_room (Nat.le_of_ble_eq_true rfl)) dL_law_936 ⟨Nat.le_of_ble_eq_true rfl, Nat.le_of_ble_eq_true rfl⟩) hG (fun H locs hG => ?_)
  refine lv_aload_n hx hb dL_law_939 rfl (lv_at hl 2 rfl) ?_
  refine lv_aload_n hx hb dL_law_940 rfl (lv_at hl 0 rfl) ?_
  refine lv_iload_n hx hb dL_law_941 rfl (lv_at hl 3 rfl) ?_
  refine lv_iconst (v := (1 : Int32)) hx hb dL_law_942 (by decide) ?_
  refine lv_iadd hx hb dL_law_943 ?_
  refine va_sld hx hb hX hbl hbA hG.2.2.2.2 h1 dL_law_944 ?_
  refine lv_aload_n hx hb dL_law_945 rfl (lv_at hl 0 rfl) ?_
  refine lv_iload_n hx hb dL_law_946 rfl (lv_at hl 3 rfl) ?_
  refine lv_iconst (v := (2 : Int32)) hx hb dL_law_947 (by decide) ?_
  refine lv_iadd hx hb dL_law_948 ?_
  refine va_sld hx hb hX hbl hbA hG.2.2.2.2 h2 dL_law_949 ?_
  refine lv_aload_n hx hb dL_law_950 rfl (lv_at hl 0 rfl) ?_
  refine lv_iload_n hx hb dL_law_951 rfl (lv_at hl 3 rfl) ?_
  refine lv_iconst (v := (3 : Int32)) hx hb dL_law_952 (by decide) ?_
  refine lv_iadd hx hb dL_law_953 ?_
  refine va_sld hx hb hX hbl hbA hG.2.2.2.2 h3 dL_law_954 ?_
  refine zl_calli (va_runV (As := [.int (xs (v + 1).toNatClampNeg), .int (xs (v + 2).toNatClampNeg), .int (xs (v + 3).toNatClampNeg)]) (rest := [.int r]) ⟨hx, hb, hml, hown, hts⟩ (mX7_sheet l D bd cA (xs (v + 1).toNatClampNeg) (xs (v + 2).toNatClampNeg) (xs (v + 3).toNatClampNeg) J r J1 eM _) (cwV 3 hts gL_law_X7_sheet rfl rfl rfl hd_X7_sheet ⟨Nat.le_of_ble_eq_true rfl, Nat.le_of_ble_eq_true rfl⟩) (zl_preV (zl2_swap hG) shM_0 vc_7) rfl rfl hl.1 rfl (lv_room (Nat.le_of_ble_eq_true rfl)) dL_law_955 ⟨Nat.le_of_ble_eq_true rfl, Nat.le_of_ble_eq_true rfl⟩) (zl2_swap hG) (fun H locs hG => ?_)
  refine lv_icmp_eq (tgt := 1264) hx hb dL_law_958 (by decide) (fun _ => ?_) (fun z => absurd rfl z)
  exact kk _ _ _ _ (zl2_swap hG) hR
set_option maxHeartbeats 4000000 in
set_option maxRecDepth 100000 in
theorem zlc_22 {p : Program} {l : Launch} {e : Env} {s : State} {m : MethodId} {below : List Frame} {meth : Method} {c : Code} {H : Heap} {locs : List Loc} {Q : State → Prop} {ls : Array Slot} {D : va_G} {cA : Nat → ClassId} {ad bd : Nat → Nat} {I J : zxI} {b L : Nat} {xs : Nat → Int32} {v : Int32} (C0 : zlC p s m meth c b L xs) (hG : zl2 D cA shX ad I shM bd J s H locs) (h : zR I J) (hl : lv_has ls 4 [(0, .ref b), (1, .ref (ad 0)), (2, .ref (bd 0)), (3, .int v)]) (h1 : vp_in (v + 1) L) (h2 : vp_in (v + 2) L) (h3 : vp_in (v + 3) L) (h4 : vp_in (v + 4) L) (h5 : vp_in (v + 5) L) (kk : ∀ (H1 : Heap) (locs1 : List Loc) (I1 J1 : zxI), zl2 D cA shX ad I1 shM bd J1 s H1 locs1 → zR I1 J1 → W p l e room_1 s m #[Value.ref b] below meth c H1 locs1 58 825 Q (F0 m 1264 ls [])) : W p l e room_1 s m #[Value.ref b] below meth c H locs 58 825 Q (F0 m 963 ls []) := by
  obtain ⟨hx, hb, hml, hown, hts, hX, hbl⟩ := C0
  have hbA : ¬ (fun q : Nat => s.heap.size ≤ q) b := Nat.not_le.mpr hbl
  obtain ⟨r, I1, J1, eX, eM, hR⟩ := zop_lose h (xs (v + 1).toNatClampNeg)
  refine lv_aload_n hx hb dL_law_963 rfl (lv_at hl 1 rfl) ?_
  refine lv_aload_n hx hb dL_law_964 rfl (lv_at hl 0 rfl) ?_
  refine lv_iload_n hx hb dL_law_965 rfl (lv_at hl 3 rfl) ?_
  refine lv_iconst (v := (1 : Int32)) hx hb dL_law_966 (by decide) ?_
  refine lv_iadd hx hb dL_law_967 ?_
  refine va_sld hx hb hX hbl hbA hG.2.2.2.2 h1 dL_law_968 ?_
  refine zl_calli (va_runV (As := [.int (xs (v + 1).toNatClampNeg)]) (rest := []) ⟨hx, hb, hml, hown, hts⟩ (mX6_lose l D ad cA (xs (v + 1).toNatClampNeg) I r I1 eX _) (cwV 1 hts gL_law_X6_lose rfl rfl rfl hd_X6_lose ⟨Nat.le_of_ble_eq_true rfl, Nat.le_of_ble_eq_true rfl⟩) (zl_preV hG shX_0 vc_6) rfl rfl hl.1 rfl (lv_room (Nat.le_of_ble_eq_true rfl)) dL_law_969 ⟨Nat.le_of_ble_eq_true rfl, Nat.le_of_ble_eq_true rfl⟩) hG (fun H locs hG => ?_)
  refine lv_aload_n hx hb dL_law_972 rfl (lv_at hl 2 rfl) ?_
  refine lv_aload_n hx hb dL_law_973 rfl (lv_at hl 0 rfl) ?_
  refine lv_iload_n hx hb dL_law_974 rfl (lv_at hl 3 rfl) ?_
  refine lv_iconst (v := (1 : Int32)) hx hb dL_law_975 (by decide) ?_
  refine lv_iadd hx hb dL_law_976 ?_
  refine va_sld hx hb hX hbl hbA hG.2.2.2.2 h1 dL_law_977 ?_
  refine zl_calli (va_runV (As := [.int (xs (v + 1).toNatClampNeg)]) (rest := [.int r]) ⟨hx, hb, hml, hown, hts⟩ (mX7_lose l D bd cA (xs (v + 1).toNatClampNeg) J r J1 eM _) (cwV 1 hts gL_law_X7_lose rfl rfl rfl hd_X7_lose ⟨Nat.le_of_ble_eq_true rfl, Nat.le_of_ble_eq_true rfl⟩) (zl_preV (zl2_swap hG) shM_0 vc_7) rfl rfl hl.1 rfl (lv_room (Nat.le_of_ble_eq_true rfl)) dL_law_978 ⟨Nat.le_of_ble_eq_true rfl, Nat.le_of_ble_eq_true rfl⟩) (zl2_swap hG) (fun H locs hG => ?_)
  refine lv_icmp_eq (tgt := 1264) hx hb dL_law_981 (by decide) (fun _ => ?_) (fun z => absurd rfl z)
  exact kk _ _ _ _ (zl2_swap hG) hR
set_option maxHeartbeats 4000000 in
set_option maxRecDepth 100000 in
theorem zlc_23 {p : Program} {l : Launch} {e : Env} {s : State} {m : MethodId} {below : List Frame} {meth : Method} {c : Code} {H : Heap} {locs : List Loc} {Q : State → Prop} {ls : Array Slot} {D : va_G} {cA : Nat → ClassId} {ad bd : Nat → Nat} {I J : zxI} {b L : Nat} {xs : Nat → Int32} {v : Int32} (C0 : zlC p s m meth c b L xs) (hG : zl2 D cA shX ad I shM bd J s H locs) (h : zR I J) (hl : lv_has ls 4 [(0, .ref b), (1, .ref (ad 0)), (2, .ref (bd 0)), (3, .int v)]) (h1 : vp_in (v + 1) L) (h2 : vp_in (v + 2) L) (h3 : vp_in (v + 3) L) (h4 : vp_in (v + 4) L) (h5 : vp_in (v + 5) L) (kk : ∀ (H1 : Heap) (locs1 : List Loc) (I1 J1 : zxI), zl2 D cA shX ad I1 shM bd J1 s H1 locs1 → zR I1 J1 → W p l e room_1 s m #[Value.ref b] below meth c H1 locs1 58 825 Q (F0 m 1264 ls [])) : W p l e room_1 s m #[Value.ref b] below meth c H locs 58 825 Q (F0 m 986 ls []) := by
  obtain ⟨hx, hb, hml, hown, hts, hX, hbl⟩ := C0
  have hbA : ¬ (fun q : Nat => s.heap.size ≤ q) b := Nat.not_le.mpr hbl
  obtain ⟨r, I1, J1, eX, eM, hR⟩ := zop_put h (xs (v + 1).toNatClampNeg) (xs (v + 2).toNatClampNeg) (xs (v + 3).toNatClampNeg)
  refine lv_aload_n hx hb dL_law_986 rfl (lv_at hl 1 rfl) ?_
  refine lv_aload_n hx hb dL_law_987 rfl (lv_at hl 0 rfl) ?_
  refine lv_iload_n hx hb dL_law_988 rfl (lv_at hl 3 rfl) ?_
  refine lv_iconst (v := (1 : Int32)) hx hb dL_law_989 (by decide) ?_
  refine lv_iadd hx hb dL_law_990 ?_
  refine va_sld hx hb hX hbl hbA hG.2.2.2.2 h1 dL_law_991 ?_
  refine lv_aload_n hx hb dL_law_992 rfl (lv_at hl 0 rfl) ?_
  refine lv_iload_n hx hb dL_law_993 rfl (lv_at hl 3 rfl) ?_
  refine lv_iconst (v := (2 : Int32)) hx hb dL_law_994 (by decide) ?_
  refine lv_iadd hx hb dL_law_995 ?_
  refine va_sld hx hb hX hbl hbA hG.2.2.2.2 h2 dL_law_996 ?_
  refine lv_aload_n hx hb dL_law_997 rfl (lv_at hl 0 rfl) ?_
  refine lv_iload_n hx hb dL_law_998 rfl (lv_at hl 3 rfl) ?_
  refine lv_iconst (v := (3 : Int32)) hx hb dL_law_999 (by decide) ?_
  refine lv_iadd hx hb dL_law_1000 ?_
  refine va_sld hx hb hX hbl hbA hG.2.2.2.2 h3 dL_law_1001 ?_
  refine zl_calli (va_runV (As := [.int (xs (v + 1).toNatClampNeg), .int (xs (v + 2).toNatClampNeg), .int (xs (v + 3).toNatClampNeg)]) (rest := []) ⟨hx, hb, hml, hown, hts⟩ (mX6_put l D ad cA (xs (v + 1).toNatClampNeg) (xs (v + 2).toNatClampNeg) (xs (v + 3).toNatClampNeg) I r I1 eX _) (cwV 3 hts gL_law_X6_put rfl rfl rfl hd_X6_put ⟨Nat.le_of_ble_eq_true rfl, Nat.le_of_ble_eq_true rfl⟩) (zl_preV hG shX_0 vc_6) rfl rfl hl.1 rfl (lv_room (Nat.le_of_ble_eq_true rfl)) dL_law_1002 ⟨Nat.le_of_ble_eq_true rfl, Nat.le_of_ble_eq_true rfl⟩) hG (fun H locs hG => ?_)
  refine lv_aload_n hx hb dL_law_1005 rfl (lv_at hl 2 rfl) ?_
  refine lv_aload_n hx hb dL_law_1006 rfl (lv_at hl 0 rfl) ?_
  refine lv_iload_n hx hb dL_law_1007 rfl (lv_at hl 3 rfl) ?_
  refine lv_iconst (v := (1 : Int32)) hx hb dL_law_1008 (by decide) ?_
  refine lv_iadd hx hb dL_law_1009 ?_
  refine va_sld hx hb hX hbl hbA hG.2.2.2.2 h1 dL_law_1010 ?_
  refine lv_aload_n hx hb dL_law_1011 rfl (lv_at hl 0 rfl) ?_
  refine lv_iload_n hx hb dL_law_1012 rfl (lv_at hl 3 rfl) ?_
  refine lv_iconst (v := (2 : Int32)) hx hb dL_law_1013 (by decide) ?_
  refine lv_iadd hx hb dL_law_1014 ?_
  refine va_sld hx hb hX hbl hbA hG.2.2.2.2 h2 dL_law_1015 ?_
  refine lv_aload_n hx hb dL_law_1016 rfl (lv_at hl 0 rfl) ?_
  refine lv_iload_n hx hb dL_law_1017 rfl (lv_at hl 3 rfl) ?_
  refine lv_iconst (v := (3 : Int32)) hx hb dL_law_1018 (by decide) ?_
  refine lv_iadd hx hb dL_law_1019 ?_
  refine va_sld hx hb hX hbl hbA hG.2.2.2.2 h3 dL_law_1020 ?_
  refine zl_calli (va_runV (As := [.int (xs (v + 1).toNatClampNeg), .int (xs (v + 2).toNatClampNeg), .int (xs (v + 3).toNatClampNeg)]) (rest := [.int r]) ⟨hx, hb, hml, hown, hts⟩ (mX7_put l D bd cA (xs (v + 1).toNatClampNeg) (xs (v + 2).toNatClampNeg) (xs (v + 3).toNatClampNeg) J r J1 eM _) (cwV 3 hts gL_law_X7_put rfl rfl rfl hd_X7_put ⟨Nat.le_of_ble_eq_true rfl, Nat.le_of_ble_eq_true rfl⟩) (zl_preV (zl2_swap hG) shM_0 vc_7) rfl rfl hl.1 rfl (lv_room (Nat.le_of_ble_eq_true rfl)) dL_law_1021 ⟨Nat.le_of_ble_eq_true rfl, Nat.le_of_ble_eq_true rfl⟩) (zl2_swap hG) (fun H locs hG => ?_)
  refine lv_icmp_eq (tgt := 1264) hx hb dL_law_1024 (by decide) (fun _ => ?_) (fun z => absurd rfl z)
  exact kk _ _ _ _ (zl2_swap hG) hR
