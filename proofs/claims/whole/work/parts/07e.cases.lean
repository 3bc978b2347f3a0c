/-! the law's cases (laid by wip/whole/genL.py) -/
set_option maxHeartbeats 4000000 in
set_option maxRecDepth 100000 in
theorem zlc_24 {p : Program} {l : Launch} {e : Env} {s : State} {m : MethodId} {below : List Frame} {meth : Method} {c : Code} {H : Heap} {locs : List Loc} {Q : State → Prop} {ls : Array Slot} {D : va_G} {cA : Nat → ClassId} {ad bd : Nat → Nat} {I J : zxI} {b L : Nat} {xs : Nat → Int32} {v : Int32} (C0 : zlC p s m meth c b L xs) (hG : zl2 D cA shX ad I shM bd J s H locs) (h : zR I J) (hl : lv_has ls 4 [(0, .ref b), (1, .ref (ad 0)), (2, .ref (bd 0)), (3, .int v)]) (h1 : vp_in (v + 1) L) (h2 : vp_in (v + 2) L) (h3 : vp_in (v + 3) L) (h4 : vp_in (v + 4) L) (h5 : vp_in (v + 5) L) (kk : ∀ (H1 : Heap) (locs1 : List Loc) (I1 J1 : zxI), zl2 D cA shX ad I1 shM bd J1 s H1 locs1 → zR I1 J1 → W p l e room_1 s m #[Value.ref b] below meth c H1 locs1 58 825 Q (F0 m 1264 ls [])) : W p l e room_1 s m #[Value.ref b] below meth c H locs 58 825 Q (F0 m 1029 ls []) := by
  obtain ⟨hx, hb, hml, hown, hts, hX, hbl⟩ := C0
  have hbA : ¬ (fun q : Nat => s.heap.size ≤ q) b := Nat.not_le.mpr hbl
  obtain ⟨r, I1, J1, eX, eM, hR⟩ := zop_cell h (xs (v + 1).toNatClampNeg) (xs (v + 2).toNatClampNeg) (xs (v + 3).toNatClampNeg)
  refine lv_aload_n hx hb dL_law_1029 rfl (lv_at hl 1 rfl) ?_
  refine lv_aload_n hx hb dL_law_1030 rfl (lv_at hl 0 rfl) ?_
  refine lv_iload_n hx hb dL_law_1031 rfl (lv_at hl 3 rfl) ?_
  refine lv_iconst (v := (1 : Int32)) hx hb dL_law_1032 (by decide) ?_
  refine lv_iadd hx hb dL_law_1033 ?_
  refine va_sld hx hb hX hbl hbA hG.2.2.2.2 h1 dL_law_1034 ?_
  refine lv_aload_n hx hb dL_law_1035 rfl (lv_at hl 0 rfl) ?_
  refine lv_iload_n hx hb dL_law_1036 rfl (lv_at hl 3 rfl) ?_
  refine lv_iconst (v := (2 : Int32)) hx hb dL_law_1037 (by decide) ?_
  refine lv_iadd hx hb dL_law_1038 ?_
  refine va_sld hx hb hX hbl hbA hG.2.2.2.2 h2 dL_law_1039 ?_
  refine lv_aload_n hx hb dL_law_1040 rfl (lv_at hl 0 rfl) ?_
  refine lv_iload_n hx hb dL_law_1041 rfl (lv_at hl 3 rfl) ?_
  refine lv_iconst (v := (3 : Int32)) hx hb dL_law_1042 (by decide) ?_
  refine lv_iadd hx hb dL_law_1043 ?_
  refine va_sld hx hb hX hbl hbA hG.2.2.2.2 h3 dL_law_1044 ?_
  refine zl_calll (va_runV (As := [.int (xs (v + 1).toNatClampNeg), .int (xs (v + 2).toNatClampNeg), .int (xs (v + 3).toNatClampNeg)]) (rest := []) ⟨hx, hb, hml, hown, hts⟩ (mX6_cell l D ad cA (xs (v + 1).toNatClampNeg) (xs (v + 2).toNatClampNeg) (xs (v + 3).toNatClampNeg) I r I1 eX _) (cwV 3 hts gL_law_X6_cell rfl rfl rfl hd_X6_cell ⟨Nat.le_of_ble_eq_true rfl, Nat.le_of_ble_eq_true rfl⟩) (zl_preV hG shX_0 vc_6) rfl rfl hl.1 rfl (lv_room (Nat.le_of_ble_eq_true rfl)) dL_law_1045 ⟨Nat.le_of_ble_eq_true rfl, Nat.le_of_ble_eq_true rfl⟩) hG (fun H locs hG => ?_)
  refine lv_aload_n hx hb dL_law_1048 rfl (lv_at hl 2 rfl) ?_
  refine lv_aload_n hx hb dL_law_1049 rfl (lv_at hl 0 rfl) ?_
  refine lv_iload_n hx hb dL_law_1050 rfl (lv_at hl 3 rfl) ?_
  refine lv_iconst (v := (1 : Int32)) hx hb dL_law_1051 (by decide) ?_
  refine lv_iadd hx hb dL_law_1052 ?_
  refine va_sld hx hb hX hbl hbA hG.2.2.2.2 h1 dL_law_1053 ?_
  refine lv_aload_n hx hb dL_law_1054 rfl (lv_at hl 0 rfl) ?_
  refine lv_iload_n hx hb dL_law_1055 rfl (lv_at hl 3 rfl) ?_
  refine lv_iconst (v := (2 : Int32)) hx hb dL_law_1056 (by decide) ?_
  refine lv_iadd hx hb dL_law_1057 ?_
  refine va_sld hx hb hX hbl hbA hG.2.2.2.2 h2 dL_law_1058 ?_
  refine lv_aload_n hx hb dL_law_1059 rfl (lv_at hl 0 rfl) ?_
  refine lv_iload_n hx hb dL_law_1060 rfl (lv_at hl 3 rfl) ?_
  refine lv_iconst (v := (3 : Int32)) hx hb dL_law_1061 (by decide) ?_
  refine lv_iadd hx hb dL_law_1062 ?_
  refine va_sld hx hb hX hbl hbA hG.2.2.2.2 h3 dL_law_1063 ?_
  refine zl_calll (va_runV (As := [.int (xs (v + 1).toNatClampNeg), .int (xs (v + 2).toNatClampNeg), .int (xs (v + 3).toNatClampNeg)]) (rest := [.long r]) ⟨hx, hb, hml, hown, hts⟩ (mX7_cell l D bd cA (xs (v + 1).toNatClampNeg) (xs (v + 2).toNatClampNeg) (xs (v + 3).toNatClampNeg) J r J1 eM _) (cwV 3 hts gL_law_X7_cell rfl rfl rfl hd_X7_cell ⟨Nat.le_of_ble_eq_true rfl, Nat.le_of_ble_eq_true rfl⟩) (zl_preV (zl2_swap hG) shM_0 vc_7) rfl rfl hl.1 rfl (lv_room (Nat.le_of_ble_eq_true rfl)) dL_law_1064 ⟨Nat.le_of_ble_eq_true rfl, Nat.le_of_ble_eq_true rfl⟩) (zl2_swap hG) (fun H locs hG => ?_)
  refine W.lcmp hx hb dL_law_1067 ?_
  refine lv_if_eq (tgt := 1264) hx hb dL_law_1068 (by decide) (fun _ => ?_) (fun z => absurd (lg_cmp_self r) z)
  exact kk _ _ _ _ (zl2_swap hG) hR
set_option maxHeartbeats 4000000 in
set_option maxRecDepth 100000 in
theorem zlc_25 {p : Program} {l : Launch} {e : Env} {s : State} {m : MethodId} {below : List Frame} {meth : Method} {c : Code} {H : Heap} {locs : List Loc} {Q : State → Prop} {ls : Array Slot} {D : va_G} {cA : Nat → ClassId} {ad bd : Nat → Nat} {I J : zxI} {b L : Nat} {xs : Nat → Int32} {v : Int32} (C0 : zlC p s m meth c b L xs) (hG : zl2 D cA shX ad I shM bd J s H locs) (h : zR I J) (hl : lv_has ls 4 [(0, .ref b), (1, .ref (ad 0)), (2, .ref (bd 0)), (3, .int v)]) (h1 : vp_in (v + 1) L) (h2 : vp_in (v + 2) L) (h3 : vp_in (v + 3) L) (h4 : vp_in (v + 4) L) (h5 : vp_in (v + 5) L) (kk : ∀ (H1 : Heap) (locs1 : List Loc) (I1 J1 : zxI), zl2 D cA shX ad I1 shM bd J1 s H1 locs1 → zR I1 J1 → W p l e room_1 s m #[Value.ref b] below meth c H1 locs1 58 825 Q (F0 m 1264 ls [])) : W p l e room_1 s m #[Value.ref b] below meth c H locs 58 825 Q (F0 m 1073 ls []) := by
  obtain ⟨hx, hb, hml, hown, hts, hX, hbl⟩ := C0
  have hbA : ¬ (fun q : Nat => s.heap.size ≤ q) b := Nat.not_le.mpr hbl
  obtain ⟨r, I1, J1, eX, eM, hR⟩ := zop_copy h (xs (v + 1).toNatClampNeg) (xs (v + 2).toNatClampNeg) (xs (v + 3).toNatClampNeg) (xs (v + 4).toNatClampNeg) (xs (v + 5).toNatClampNeg)
  refine lv_aload_n hx hb dL_law_1073 rfl (lv_at hl 1 rfl) ?_
  refine lv_aload_n hx hb dL_law_1074 rfl (lv_at hl 0 rfl) ?_
  refine lv_iload_n hx hb dL_law_1075 rfl (lv_at hl 3 rfl) ?_
  refine lv_iconst (v := (1 : Int32)) hx hb dL_law_1076 (by decide) ?_
  refine lv_iadd hx hb dL_law_1077 ?_
  refine va_sld hx hb hX hbl hbA hG.2.2.2.2 h1 dL_law_1078 ?_
  refine lv_aload_n hx hb dL_law_1079 rfl (lv_at hl 0 rfl) ?_
  refine lv_iload_n hx hb dL_law_1080 rfl (lv_at hl 3 rfl) ?_
  refine lv_iconst (v := (2 : Int32)) hx hb dL_law_1081 (by decide) ?_
  refine lv_iadd hx hb dL_law_1082 ?_
  refine va_sld hx hb hX hbl hbA hG.2.2.2.2 h2 dL_law_1083 ?_
  refine lv_aload_n hx hb dL_law_1084 rfl (lv_at hl 0 rfl) ?_
  refine lv_iload_n hx hb dL_law_1085 rfl (lv_at hl 3 rfl) ?_
  refine lv_iconst (v := (3 : Int32)) hx hb dL_law_1086 (by decide) ?_
  refine lv_iadd hx hb dL_law_1087 ?_
  refine va_sld hx hb hX hbl hbA hG.2.2.2.2 h3 dL_law_1088 ?_
  refine lv_aload_n hx hb dL_law_1089 rfl (lv_at hl 0 rfl) ?_
  refine lv_iload_n hx hb dL_law_1090 rfl (lv_at hl 3 rfl) ?_
  refine lv_iconst (v := (4 : Int32)) hx hb dL_law_1091 (by decide) ?_
  refine lv_iadd hx hb dL_law_1092 ?_
  refine va_sld hx hb hX hbl hbA hG.2.2.2.2 h4 dL_law_1093 ?_
  refine lv_aload_n hx hb dL_law_1094 rfl (lv_at hl 0 rfl) ?_
  refine lv_iload_n hx hb dL_law_1095 rfl (lv_at hl 3 rfl) ?_
  refine lv_iconst (v := (5 : Int32)) hx hb dL_law_1096 (by decide) ?_
  refine lv_iadd hx hb dL_law_1097 ?_
  refine va_sld hx hb hX hbl hbA hG.2.2.2.2 h5 dL_law_1098 ?_
  refine zl_calli (va_runV (As := [.int (xs (v + 1).toNatClampNeg), .int (xs (v + 2).toNatClampNeg), .int (xs (v + 3).toNatClampNeg), .int (xs (v + 4).toNatClampNeg), .int (xs (v + 5).toNatClampNeg)]) (rest := []) ⟨hx, hb, hml, hown, hts⟩ (mX6_copy l D ad cA (xs (v + 1).toNatClampNeg) (xs (v + 2).toNatClampNeg) (xs (v + 3).toNatClampNeg) (xs (v + 4).toNatClampNeg) (xs (v + 5).toNatClampNeg) I r I1 eX _) (cwV 5 hts gL_law_X6_copy rfl rfl rfl hd_X6_copy ⟨Nat.le_of_ble_eq_true rfl, Nat.le_of_ble_eq_true rfl⟩) (zl_preV hG shX_0 vc_6) rfl rfl hl.1 rfl (lv_room (Nat.le_of_ble_eq_true rfl)) dL_law_1099 ⟨Nat.le_of_ble_eq_true rfl, Nat.le_of_ble_eq_true rfl⟩) hG (fun H locs hG => ?_)
  refine lv_aload_n hx hb dL_law_1102 rfl (lv_at hl 2 rfl) ?_
  refine lv_aload_n hx hb dL_law_1103 rfl (lv_at hl 0 rfl) ?_
  refine lv_iload_n hx hb dL_law_1104 rfl (lv_at hl 3 rfl) ?_
  refine lv_iconst (v := (1 : Int32)) hx hb dL_law_1105 (by decide) ?_
  refine lv_iadd hx hb dL_law_1106 ?_
  refine va_sld hx hb hX hbl hbA hG.2.2.2.2 h1 dL_law_1107 ?_
  refine lv_aload_n hx hb dL_law_1108 rfl (lv_at hl 0 rfl) ?_
  refine lv_iload_n hx hb dL_law_1109 rfl (lv_at hl 3 rfl) ?_
  refine lv_iconst (v := (2 : Int32)) hx hb dL_law_1110 (by decide) ?_
  refine lv_iadd hx hb dL_law_1111 ?_
  refine va_sld hx hb hX hbl hbA hG.2.2.2.2 h2 dL_law_1112 ?_
  refine lv_aload_n hx hb dL_law_1113 rfl (lv_at hl 0 rfl) ?_
  refine lv_iload_n hx hb dL_law_1114 rfl (lv_at hl 3 rfl) ?_
  refine lv_iconst (v := (3 : Int32)) hx hb dL_law_1115 (by decide) ?_
  refine lv_iadd hx hb dL_law_1116 ?_
  refine va_sld hx hb hX hbl hbA hG.2.2.2.2 h3 dL_law_1117 ?_
  refine lv_aload_n hx hb dL_law_1118 rfl (lv_at hl 0 rfl) ?_
  refine lv_iload_n hx hb dL_law_1119 rfl (lv_at hl 3 rfl) ?_
  refine lv_iconst (v := (4 : Int32)) hx hb dL_law_1120 (by decide) ?_
  refine lv_iadd hx hb dL_law_1121 ?_
  refine va_sld hx hb hX hbl hbA hG.2.2.2.2 h4 dL_law_1122 ?_
  refine lv_aload_n hx hb dL_law_1123 rfl (lv_at hl 0 rfl) ?_
  refine lv_iload_n hx hb dL_law_1124 rfl (lv_at hl 3 rfl) ?_
  refine lv_iconst (v := (5 : Int32)) hx hb dL_law_1125 (by decide) ?_
  refine lv_iadd hx hb dL_law_1126 ?_
  refine va_sld hx hb hX hbl hbA hG.2.2.2.2 h5 dL_law_1127 ?_
  refine zl_calli (va_runV (As := [.int (xs (v + 1).toNatClampNeg), .int (xs (v + 2).toNatClampNeg), .int (xs (v + 3).toNatClampNeg), .int (xs (v + 4).toNatClampNeg), .int (xs (v + 5).toNatClampNeg)]) (rest := [.int r]) ⟨hx, hb, hml, hown, hts⟩ (mX7_copy l D bd cA (xs (v + 1).toNatClampNeg) (xs (v + 2).toNatClampNeg) (xs (v + 3).toNatClampNeg) (xs (v + 4).toNatClampNeg) (xs (v + 5).toNatClampNeg) J r J1 eM _) (cwV 5 hts gL_law_X7_copy rfl rfl rfl hd_X7_copy ⟨Nat.le_of_ble_eq_true rfl, Nat.le_of_ble_eq_true rfl⟩) (zl_preV (zl2_swap hG) shM_0 vc_7) rfl rfl hl.1 rfl (lv_room (Nat.le_of_ble_eq_true rfl)) dL_law_1128 ⟨Nat.le_of_ble_eq_true rfl, Nat.le_of_ble_eq_true rfl⟩) (zl2_swap hG) (fun H locs hG => ?_)
  refine lv_icmp_eq (tgt := 1264) hx hb dL_law_1131 (by decide) (fun _ => ?_) (fun z => absurd rfl z)
  exact kk _ _ _ _ (zl2_swap hG) hR
set_option maxHeartbeats 4000000 in
set_option maxRecDepth 100000 in
theorem zlc_26 {p : Program} {l : Launch} {e : Env} {s : State} {m : MethodId} {below : List Frame} {meth : Method} {c : Code} {H : Heap} {locs : List Loc} {Q : State → Prop} {ls : Array Slot} {D : va_G} {cA : Nat → ClassId} {ad bd : Nat → Nat} {I J : zxI} {b L : Nat} {xs : Nat → Int32} {v : Int32} (C0 : zlC p s m meth c b L xs) (hG : zl2 D cA shX ad I shM bd J s H locs) (h : zR I J) (hl : lv_has ls 4 [(0, .ref b), (1, .ref (ad 0)), (2, .ref (bd 0)), (3, .int v)]) (h1 : vp_in (v + 1) L) (h2 : vp_in (v + 2) L) (h3 : vp_in (v + 3) L) (h4 : vp_in (v + 4) L) (h5 : vp_in (v + 5) L) (kk : ∀ (H1 : Heap) (locs1 : List Loc) (I1 J1 : zxI), zl2 D cA shX ad I1 shM bd J1 s H1 locs1 → zR I1 J1 → W p l e room_1 s m #[Value.ref b] below meth c H1 locs1 58 825 Q (F0 m 1264 ls [])) : W p l e room_1 s m #[Value.ref b] below meth c H locs 58 825 Q (F0 m 1136 ls []) := by
  obtain ⟨hx, hb, hml, hown, hts, hX, hbl⟩ := C0
  have hbA : ¬ (fun q : Nat => s.heap.size ≤ q) b := Nat.not_le.mpr hbl
  obtain ⟨r, I1, J1, eX, eM, hR⟩ := zop_tell h (xs (v + 1).toNatClampNeg)
  refine lv_aload_n hx hb dL_law_1136 rfl (lv_at hl 1 rfl) ?_
  refine lv_aload_n hx hb dL_law_1137 rfl (lv_at hl 0 rfl) ?_
  refine lv_iload_n hx hb dL_law_1138 rfl (lv_at hl 3 rfl) ?_
  refine lv_iconst (v := (1 : Int32)) hx hb dL_law_1139 (by decide) ?_
  refine lv_iadd hx hb dL_law_1140 ?_
  refine va_sld hx hb hX hbl hbA hG.2.2.2.2 h1 dL_law_1141 ?_
  refine zl_calli (va_runV (As := [.int (xs (v + 1).toNatClampNeg)]) (rest := []) ⟨hx, hb, hml, hown, hts⟩ (mX6_tell l D ad cA (xs (v + 1).toNatClampNeg) I r I1 eX _) (cwV 1 hts gL_law_X6_tell rfl rfl rfl hd_X6_tell ⟨Nat.le_of_ble_eq_true rfl, Nat.le_of_ble_eq_true rfl⟩) (zl_preV hG shX_0 vc_6) rfl rfl hl.1 rfl (lv_room (Nat.le_of_ble_eq_true rfl)) dL_law_1142 ⟨Nat.le_of_ble_eq_true rfl, Nat.le_of_ble_eq_true rfl⟩) hG (fun H locs hG => ?_)
  refine lv_aload_n hx hb dL_law_1145 rfl (lv_at hl 2 rfl) ?_
  refine lv_aload_n hx hb dL_law_1146 rfl (lv_at hl 0 rfl) ?_
  refine lv_iload_n hx hb dL_law_1147 rfl (lv_at hl 3 rfl) ?_
  refine lv_iconst (v := (1 : Int32)) hx hb dL_law_1148 (by decide) ?_
  refine lv_iadd hx hb dL_law_1149 ?_
  refine va_sld hx hb hX hbl hbA hG.2.2.2.2 h1 dL_law_1150 ?_
  refine zl_calli (va_runV (As := [.int (xs (v + 1).toNatClampNeg)]) (rest := [.int r]) ⟨hx, hb, hml, hown, hts⟩ (mX7_tell l D bd cA (xs (v + 1).toNatClampNeg) J r J1 eM _) (cwV 1 hts gL_law_X7_tell rfl rfl rfl hd_X7_tell ⟨Nat.le_of_ble_eq_true rfl, Nat.le_of_ble_eq_true rfl⟩) (zl_preV (zl2_swap hG) shM_0 vc_7) rfl rfl hl.1 rfl (lv_room (Nat.le_of_ble_eq_true rfl)) dL_law_1151 ⟨Nat.le_of_ble_eq_true rfl, Nat.le_of_ble_eq_true rfl⟩) (zl2_swap hG) (fun H locs hG => ?_)
  refine lv_icmp_eq (tgt := 1264) hx hb dL_law_1154 (by decide) (fun _ => ?_) (fun z => absurd rfl z)
  exact kk _ _ _ _ (zl2_swap hG) hR
set_option maxHeartbeats 4000000 in
set_option maxRecDepth 100000 in
theorem zlc_27 {p : Program} {l : Launch} {e : Env} {s : State} {m : MethodId} {below : List Frame} {meth : Method} {c : Code} {H : Heap} {locs : List Loc} {Q : State → Prop} {ls : Array Slot} {D : va_G} {cA : Nat → ClassId} {ad bd : Nat → Nat} {I J : zxI} {b L : Nat} {xs : Nat → Int32} {v : Int32} (C0 : zlC p s m meth c b L xs) (hG : zl2 D cA shX ad I shM bd J s H locs) (h : zR I J) (hl : lv_has ls 4 [(0, .ref b), (1, .ref (ad 0)), (2, .ref (bd 0)), (3, .int v)]) (h1 : vp_in (v + 1) L) (h2 : vp_in (v + 2) L) (h3 : vp_in (v + 3) L) (h4 : vp_in (v + 4) L) (h5 : vp_in (v + 5) L) (kk : ∀ (H1 : Heap) (locs1 : List Loc) (I1 J1 : zxI), zl2 D cA shX ad I1 shM bd J1 s H1 locs1 → zR I1 J1 → W p l e room_1 s m #[Value.ref b] below meth c H1 locs1 58 825 Q (F0 m 1264 ls [])) : W p l e room_1 s m #[Value.ref b] below meth c H locs 58 825 Q (F0 m 1159 ls []) := by
  obtain ⟨hx, hb, hml, hown, hts, hX, hbl⟩ := C0
  have hbA : ¬ (fun q : Nat => s.heap.size ≤ q) b := Nat.not_le.mpr hbl
  obtain ⟨r, I1, J1, eX, eM, hR⟩ := zop_sign h (xs (v + 1).toNatClampNeg)
  refine lv_aload_n hx hb dL_law_1159 rfl (lv_at hl 1 rfl) ?_
  refine lv_aload_n hx hb dL_law_1160 rfl (lv_at hl 0 rfl) ?_
  refine lv_iload_n hx hb dL_law_1161 rfl (lv_at hl 3 rfl) ?_
  refine lv_iconst (v := (1 : Int32)) hx hb dL_law_1162 (by decide) ?_
  refine lv_iadd hx hb dL_law_1163 ?_
  refine va_sld hx hb hX hbl hbA hG.2.2.2.2 h1 dL_law_1164 ?_
  refine zl_calli (va_runV (As := [.int (xs (v + 1).toNatClampNeg)]) (rest := []) ⟨hx, hb, hml, hown, hts⟩ (mX6_sign l D ad cA (xs (v + 1).toNatClampNeg) I r I1 eX _) (cwV 1 hts gL_law_X6_sign rfl rfl rfl hd_X6_sign ⟨Nat.le_of_ble_eq_true rfl, Nat.le_of_ble_eq_true rfl⟩) (zl_preV hG shX_0 vc_6) rfl rfl hl.1 rfl (lv_room (Nat.le_of_ble_eq_true rfl)) dL_law_1165 ⟨Nat.le_of_ble_eq_true rfl, Nat.le_of_ble_eq_true rfl⟩) hG (fun H locs hG => ?_)
  refine lv_aload_n hx hb dL_law_1168 rfl (lv_at hl 2 rfl) ?_
  refine lv_aload_n hx hb dL_law_1169 rfl (lv_at hl 0 rfl) ?_
  refine lv_iload_n hx hb dL_law_1170 rfl (lv_at hl 3 rfl) ?_
  refine lv_iconst (v := (1 : Int32)) hx hb dL_law_1171 (by decide) ?_
  refine lv_iadd hx hb dL_law_1172 ?_
  refine va_sld hx hb hX hbl hbA hG.2.2.2.2 h1 dL_law_1173 ?_
  refine zl_calli (va_runV (As := [.int (xs (v + 1).toNatClampNeg)]) (rest := [.int r]) ⟨hx, hb, hml, hown, hts⟩ (mX7_sign l D bd cA (xs (v + 1).toNatClampNeg) J r J1 eM _) (cwV 1 hts gL_law_X7_sign rfl rfl rfl hd_X7_sign ⟨Nat.le_of_ble_eq_true rfl, Nat.le_of_ble_eq_true rfl⟩) (zl_preV (zl2_swap hG) shM_0 vc_7) rfl rfl hl.1 rfl (lv_room (Nat.le_of_ble_eq_true rfl)) dL_law_1174 ⟨Nat.le_of_ble_eq_true rfl, Nat.le_of_ble_eq_true rfl⟩) (zl2_swap hG) (fun H locs hG => ?_)
  refine lv_icmp_eq (tgt := 1264) hx hb dL_law_1177 (by decide) (fun _ => ?_) (fun z => absurd rfl z)
  exact kk _ _ _ _ (zl2_swap hG) hR
set_option maxHeartbeats 4000000 in
set_option maxRecDepth 100000 in
theorem zlc_28 {p : Program} {l : Launch} {e : Env} {s : State} {m : MethodId} {below : List Frame} {meth : Method} {c : Code} {H : Heap} {locs : List Loc} {Q : State → Prop} {ls : Array Slot} {D : va_G} {cA : Nat → ClassId} {ad bd : Nat → Nat} {I J : zxI} {b L : Nat} {xs : Nat → Int32} {v : Int32} (C0 : zlC p s m meth c b L xs) (hG : zl2 D cA shX ad I shM bd J s H locs) (h : zR I J) (hl : lv_has ls 4 [(0, .ref b), (1, .ref (ad 0)), (2, .ref (bd 0)), (3, .int v)]) (h1 : vp_in (v + 1) L) (h2 : vp_in (v + 2) L) (h3 : vp_in (v + 3) L) (h4 : vp_in (v + 4) L) (h5 : vp_in (v + 5) L) (kk : ∀ (H1 : Heap) (locs1 : List Loc) (I1 J1 : zxI), zl2 D cA shX ad I1 shM bd J1 s H1 locs1 → zR I1 J1 → W p l e room_1 s m #[Value.ref b] below meth c H1 locs1 58 825 Q (F0 m 1264 ls [])) : W p l e room_1 s m #[Value.ref b] below meth c H locs 58 825 Q (F0 m 1182 ls []) := by
  obtain ⟨hx, hb, hml, hown, hts, hX, hbl⟩ := C0
  have hbA : ¬ (fun q : Nat => s.heap.size ≤ q) b := Nat.not_le.mpr hbl
  obtain ⟨r, I1, J1, eX, eM, hR⟩ := zop_as h (xs (v + 1).toNatClampNeg) (xs (v + 2).toNatClampNeg)
  refine lv_aload_n hx hb dL_law_1182 rfl (lv_at hl 1 rfl) ?_
  refine lv_aload_n hx hb dL_law_1183 rfl (lv_at hl 0 rfl) ?_
  refine lv_iload_n hx hb dL_law_1184 rfl (lv_at hl 3 rfl) ?_
  refine lv_iconst (v := (1 : Int32)) hx hb dL_law_1185 (by decide) ?_
  refine lv_iadd hx hb dL_law_1186 ?_
  refine va_sld hx hb hX hbl hbA hG.2.2.2.2 h1 dL_law_1187 ?_
  refine lv_aload_n hx hb dL_law_1188 rfl (lv_at hl 0 rfl) ?_
  refine lv_iload_n hx hb dL_law_1189 rfl (lv_at hl 3 rfl) ?_
  refine lv_iconst (v := (2 : Int32)) hx hb dL_law_1190 (by decide) ?_
  refine lv_iadd hx hb dL_law_1191 ?_
  refine va_sld hx hb hX hbl hbA hG.2.2.2.2 h2 dL_law_1192 ?_
  refine zl_calli (va_runV (As := [.int (xs (v + 1).toNatClampNeg), .int (xs (v + 2).toNatClampNeg)]) (rest := []) ⟨hx, hb, hml, hown, hts⟩ (mX6_as l D ad cA (xs (v + 1).toNatClampNeg) (xs (v + 2).toNatClampNeg) I r I1 eX _) (cwV 2 hts gL_law_X6_as rfl rfl rfl hd_X6_as ⟨Nat.le_of_ble_eq_true rfl, Nat.le_of_ble_eq_true rfl⟩) (zl_preV hG shX_0 vc_6) rfl rfl hl.1 rfl (lv_room (Nat.le_of_ble_eq_true rfl)) dL_law_1193 ⟨Nat.le_of_ble_eq_true rfl, Nat.le_of_ble_eq_true rfl⟩) hG (fun H locs hG => ?_)
  refine lv_aload_n hx hb dL_law_1196 rfl (lv_at hl 2 rfl) ?_
  refine lv_aload_n hx hb dL_law_1197 rfl (lv_at hl 0 rfl) ?_
  refine lv_iload_n hx hb dL_law_1198 rfl (lv_at hl 3 rfl) ?_
  refine lv_iconst (v := (1 : Int32)) hx hb dL_law_1199 (by decide) ?_
  refine lv_iadd hx hb dL_law_1200 ?_
  refine va_sld hx hb hX hbl hbA hG.2.2.2.2 h1 dL_law_1201 ?_
  refine lv_aload_n hx hb dL_law_1202 rfl (lv_at hl 0 rfl) ?_
  refine lv_iload_n hx hb dL_law_1203 rfl (lv_at hl 3 rfl) ?_
  refine lv_iconst (v := (2 : Int32)) hx hb dL_law_1204 (by decide) ?_
  refine lv_iadd hx hb dL_law_1205 ?_
  refine va_sld hx hb hX hbl hbA hG.2.2.2.2 h2 dL_law_1206 ?_
  refine zl_calli (va_runV (As := [.int (xs (v + 1).toNatClampNeg), .int (xs (v + 2).toNatClampNeg)]) (rest := [.int r]) ⟨hx, hb, hml, hown, hts⟩ (mX7_as l D bd cA (xs (v + 1).toNatClampNeg) (xs (v + 2).toNatClampNeg) J r J1 eM _) (cwV 2 hts gL_law_X7_as rfl rfl rfl hd_X7_as ⟨Nat.le_of_ble_eq_true rfl, Nat.le_of_ble_eq_true rfl⟩) (zl_preV (zl2_swap hG) shM_0 vc_7) rfl rfl hl.1 rfl (lv_room (Nat.le_of_ble_eq_true rfl)) dL_law_1207 ⟨Nat.le_of_ble_eq_true rfl, Nat.le_of_ble_eq_true rfl⟩) (zl2_swap hG) (fun H locs hG => ?_)
  refine lv_icmp_eq (tgt := 1264) hx hb dL_law_1210 (by decide) (fun _ => ?_) (fun z => absurd rfl z)
  exact kk _ _ _ _ (zl2_swap hG) hR
set_option maxHeartbeats 4000000 in
set_option maxRecDepth 100000 in
theorem zlc_29 {p : Program} {l : Launch} {e : Env} {s : State} {m : MethodId} {below : List Frame} {meth : Method} {c : Code} {H : Heap} {locs : List Loc} {Q : State → Prop} {ls : Array Slot} {D : va_G} {cA : Nat → ClassId} {ad bd : Nat → Nat} {I J : zxI} {b L : Nat} {xs : Nat → Int32} {v : Int32} (C0 : zlC p s m meth c b L xs) (hG : zl2 D cA shX ad I shM bd J s H locs) (h : zR I J) (hl : lv_has ls 4 [(0, .ref b), (1, .ref (ad 0)), (2, .ref (bd 0)), (3, .int v)]) (h1 : vp_in (v + 1) L) (h2 : vp_in (v + 2) L) (h3 : vp_in (v + 3) L) (h4 : vp_in (v + 4) L) (h5 : vp_in (v + 5) L) (kk : ∀ (H1 : Heap) (locs1 : List Loc) (I1 J1 : zxI), zl2 D cA shX ad I1 shM bd J1 s H1 locs1 → zR I1 J1 → W p l e room_1 s m #[Value.ref b] below meth c H1 locs1 58 825 Q (F0 m 1264 ls [])) : W p l e room_1 s m #[Value.ref b] below meth c H locs 58 825 Q (F0 m 1215 ls []) := by
  obtain ⟨hx, hb, hml, hown, hts, hX, hbl⟩ := C0
  have hbA : ¬ (fun q : Nat => s.heap.size ≤ q) b := Nat.not_le.mpr hbl
  obtain ⟨r, I1, J1, eX, eM, hR⟩ := zop_trace h
  refine lv_aload_n hx hb dL_law_1215 rfl (lv_at hl 1 rfl) ?_
  refine zl_calli (va_runV (As := []) (rest := []) ⟨hx, hb, hml, hown, hts⟩ (mX6_trace l D ad cA  I r I1 eX _) (cwV 0 hts gL_law_X6_trace rfl rfl rfl hd_X6_trace ⟨Nat.le_of_ble_eq_true rfl, Nat.le_of_ble_eq_true rfl⟩) (zl_preV hG shX_0 vc_6) rfl rfl hl.1 rfl (lv_room (Nat.le_of_ble_eq_true rfl)) dL_law_1216 ⟨Nat.le_of_ble_eq_true rfl, Nat.le_of_ble_eq_true rfl⟩) hG (fun H locs hG => ?_)
  refine lv_aload_n hx hb dL_law_1219 rfl (lv_at hl 2 rfl) ?_
  refine zl_calli (va_runV (As := []) (rest := [.int r]) ⟨hx, hb, hml, hown, hts⟩ (mX7_trace l D bd cA  J r J1 eM _) (cwV 0 hts gL_law_X7_trace rfl rfl rfl hd_X7_trace ⟨Nat.le_of_ble_eq_true rfl, Nat.le_of_ble_eq_true rfl⟩) (zl_preV (zl2_swap hG) shM_0 vc_7) rfl rfl hl.1 rfl (lv_room (Nat.le_of_ble_eq_true rfl)) dL_law_1220 ⟨Nat.le_of_ble_eq_true rfl, Nat.le_of_ble_eq_true rfl⟩) (zl2_swap hG) (fun H locs hG => ?_)
  refine lv_icmp_eq (tgt := 1264) hx hb dL_law_1223 (by decide) (fun _ => ?_) (fun z => absurd rfl z)
  exact kk _ _ _ _ (zl2_swap hG) hR
set_option maxHeartbeats 4000000 in
set_option maxRecDepth 100000 in
theorem zlc_30 {p : Program} {l : Launch} {e : Env} {s : State} {m : MethodId} {below : List Frame} {meth : Method} {c : Code} {H : Heap} {locs : List Loc} {Q : State → Prop} {ls : Array Slot} {D : va_G} {cA : Nat → ClassId} {ad bd : Nat → Nat} {I J : zxI} {b L : Nat} {xs : Nat → Int32} {v : Int32} (C0 : zlC p s m meth c b L xs) (hG : zl2 D cA shX ad I shM bd J s H locs) (h : zR I J) (hl : lv_has ls 4 [(0, .ref b), (1, .ref (ad 0)), (2, .ref (bd 0)), (3, .int v)]) (h1 : vp_in (v + 1) L) (h2 : vp_in (v + 2) L) (h3 : vp_in (v + 3) L) (h4 : vp_in (v + 4) L) (h5 : vp_in (v + 5) L) (kk : ∀ (H1 : Heap) (locs1 : List Loc) (I1 J1 : zxI), zl2 D cA shX ad I1 shM bd J1 s H1 locs1 → zR I1 J1 → W p l e room_1 s m #[Value.ref b] below meth c H1 locs1 58 825 Q (F0 m 1264 ls [])) : W p l e room_1 s m #[Value.ref b] below meth c H locs 58 825 Q (F0 m 1228 ls []) := by
  obtain ⟨hx, hb, hml, hown, hts, hX, hbl⟩ := C0
  have hbA : ¬ (fun q : Nat => s.heap.size ≤ q) b := Nat.not_le.mpr hbl
  obtain ⟨r, I1, J1, eX, eM, hR⟩ := zop_fault h
  refine lv_aload_n hx hb dL_law_1228 rfl (lv_at hl 1 rfl) ?_
  refine zl_calli (va_runV (As := []) (rest := []) ⟨hx, hb, hml, hown, hts⟩ (mX6_fault l D ad cA  I r I1 eX _) (cwV 0 hts gL_law_X6_fault rfl rfl rfl hd_X6_fault ⟨Nat.le_of_ble_eq_true rfl, Nat.le_of_ble_eq_true rfl⟩) (zl_preV hG shX_0 vc_6) rfl rfl hl.1 rfl (lv_room (Nat.le_of_ble_eq_true rfl)) dL_law_1229 ⟨Nat.le_of_ble_eq_true rfl, Nat.le_of_ble_eq_true rfl⟩) hG (fun H locs hG => ?_)
  refine lv_aload_n hx hb dL_law_1232 rfl (lv_at hl 2 rfl) ?_
  refine zl_calli (va_runV (As := []) (rest := [.int r]) ⟨hx, hb, hml, hown, hts⟩ (mX7_fault l D bd cA  J r J1 eM _) (cwV 0 hts gL_law_X7_fault rfl rfl rfl hd_X7_fault ⟨Nat.le_of_ble_eq_true rfl, Nat.le_of_ble_eq_true rfl⟩) (zl_preV (zl2_swap hG) shM_0 vc_7) rfl rfl hl.1 rfl (lv_room (Nat.le_of_ble_eq_true rfl)) dL_law_1233 ⟨Nat.le_of_ble_eq_true rfl, Nat.le_of_ble_eq_true rfl⟩) (zl2_swap hG) (fun H locs hG => ?_)
  refine lv_icmp_eq (tgt := 1264) hx hb dL_law_1236 (by decide) (fun _ => ?_) (fun z => absurd rfl z)
  exact kk _ _ _ _ (zl2_swap hG) hR
set_option maxHeartbeats 4000000 in
set_option maxRecDepth 100000 in
theorem zlc_31 {p : Program} {l : Launch} {e : Env} {s : State} {m : MethodId} {below : List Frame} {meth : Method} {c : Code} {H : Heap} {locs : List Loc} {Q : State → Prop} {ls : Array Slot} {D : va_G} {cA : Nat → ClassId} {ad bd : Nat → Nat} {I J : zxI} {b L : Nat} {xs : Nat → Int32} {v : Int32} (C0 : zlC p s m meth c b L xs) (hG : zl2 D cA shX ad I shM bd J s H locs) (h : zR I J) (hl : lv_has ls 4 [(0, .ref b), (1, .ref (ad 0)), (2, .ref (bd 0)), (3, .int v)]) (h1 : vp_in (v + 1) L) (h2 : vp_in (v + 2) L) (h3 : vp_in (v + 3) L) (h4 : vp_in (v + 4) L) (h5 : vp_in (v + 5) L) (kk : ∀ (H1 : Heap) (locs1 : List Loc) (I1 J1 : zxI), zl2 D cA shX ad I1 shM bd J1 s H1 locs1 → zR I1 J1 → W p l e room_1 s m #[Value.ref b] below meth c H1 locs1 58 825 Q (F0 m 1264 ls [])) : W p l e room_1 s m #[Value.ref b] below meth c H locs 58 825 Q (F0 m 1241 ls []) := by
  obtain ⟨hx, hb, hml, hown, hts, hX, hbl⟩ := C0
  have hbA : ¬ (fun q : Nat => s.heap.size ≤ q) b := Nat.not_le.mpr hbl
  obtain ⟨r, I1, J1, eX, eM, hR⟩ := zop_many h (xs (v + 1).toNatClampNeg)
  refine lv_aload_n hx hb dL_law_1241 rfl (lv_at hl 1 rfl) ?_
  refine lv_aload_n hx hb dL_law_1242 rfl (lv_at hl 0 rfl) ?_
  refine lv_iload_n hx hb dL_law_1243 rfl (lv_at hl 3 rfl) ?_
  refine lv_iconst (v := (1 : Int32)) hx hb dL_law_1244 (by decide) ?_
  refine lv_iadd hx hb dL_law_1245 ?_
  refine va_sld hx hb hX hbl hbA hG.2.2.2.2 h1 dL_law_1246 ?_
  refine zl_calli (va_runV (As := [.int (xs (v + 1).toNatClampNeg)]) (rest := []) ⟨hx, hb, hml, hown, hts⟩ (mX6_many l D ad cA (xs (v + 1).toNatClampNeg) I r I1 eX _) (cwV 1 hts gL_law_X6_many rfl rfl rfl hd_X6_many ⟨Nat.le_of_ble_eq_true rfl, Nat.le_of_ble_eq_true rfl⟩) (zl_preV hG shX_0 vc_6) rfl rfl hl.1 rfl (lv_room (Nat.le_of_ble_eq_true rfl)) dL_law_1247 ⟨Nat.le_of_ble_eq_true rfl, Nat.le_of_ble_eq_true rfl⟩) hG (fun H locs hG => ?_)
  refine lv_aload_n hx hb dL_law_1250 rfl (lv_at hl 2 rfl) ?_
  refine lv_aload_n hx hb dL_law_1251 rfl (lv_at hl 0 rfl) ?_
  refine lv_iload_n hx hb dL_law_1252 rfl (lv_at hl 3 rfl) ?_
  refine lv_iconst (v := (1 : Int32)) hx hb dL_law_1253 (by decide) ?_
  refine lv_iadd hx hb dL_law_1254 ?_
  refine va_sld hx hb hX hbl hbA hG.2.2.2.2 h1 dL_law_1255 ?_
  refine zl_calli (va_runV (As := [.int (xs (v + 1).toNatClampNeg)]) (rest := [.int r]) ⟨hx, hb, hml, hown, hts⟩ (mX7_many l D bd cA (xs (v + 1).toNatClampNeg) J r J1 eM _) (cwV 1 hts gL_law_X7_many rfl rfl rfl hd_X7_many ⟨Nat.le_of_ble_eq_true rfl, Nat.le_of_ble_eq_true rfl⟩) (zl_preV (zl2_swap hG) shM_0 vc_7) rfl rfl hl.1 rfl (lv_room (Nat.le_of_ble_eq_true rfl)) dL_law_1256 ⟨Nat.le_of_ble_eq_true rfl, Nat.le_of_ble_eq_true rfl⟩) (zl2_swap hG) (fun H locs hG => ?_)
  refine lv_icmp_eq (tgt := 1264) hx hb dL_law_1259 (by decide) (fun _ => ?_) (fun z => absurd rfl z)
  exact kk _ _ _ _ (zl2_swap hG) hR
