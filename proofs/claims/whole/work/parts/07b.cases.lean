/-! the law's cases (laid by wip/whole/genL.py) -/
theorem lg_cmp_self (r : Int64) : lg_cmp r r = 0 := by
  unfold lg_cmp
  simp
set_option maxHeartbeats 4000000 in
set_option maxRecDepth 100000 in
theorem zlc_0 {p : Program} {l : Launch} {e : Env} {s : State} {m : MethodId} {below : List Frame} {meth : Method} {c : Code} {H : Heap} {locs : List Loc} {Q : State → Prop} {ls : Array Slot} {D : va_G} {cA : Nat → ClassId} {ad bd : Nat → Nat} {I J : zxI} {b L : Nat} {xs : Nat → Int32} {v : Int32} (C0 : zlC p s m meth c b L xs) (hG : zl2 D cA shX ad I shM bd J s H locs) (h : zR I J) (hl : lv_has ls 4 [(0, .ref b), (1, .ref (ad 0)), (2, .ref (bd 0)), (3, .int v)]) (h1 : vp_in (v + 1) L) (h2 : vp_in (v + 2) L) (h3 : vp_in (v + 3) L) (h4 : vp_in (v + 4) L) (h5 : vp_in (v + 5) L) (kk : ∀ (H1 : Heap) (locs1 : List Loc) (I1 J1 : zxI), zl2 D cA shX ad I1 shM bd J1 s H1 locs1 → zR I1 J1 → W p l e room_1 s m #[Value.ref b] below meth c H1 locs1 58 825 Q (F0 m 1264 ls [])) : W p l e room_1 s m #[Value.ref b] below meth c H locs 58 825 Q (F0 m 176 ls []) := by
  obtain ⟨hx, hb, hml, hown, hts, hX, hbl⟩ := C0
  have hbA : ¬ (fun q : Nat => s.heap.size ≤ q) b := Nat.not_le.mpr hbl
  obtain ⟨r, I1, J1, eX, eM, hR⟩ := zop_mine h (xs (v + 1).toNatClampNeg) (xs (v + 2).toNatClampNeg) (xs (v + 3).toNatClampNeg) (xs (v + 4).toNatClampNeg)
  refine lv_aload_n hx hb dL_law_176 rfl (lv_at hl 1 rfl) ?_
  refine lv_aload_n hx hb dL_law_177 rfl (lv_at hl 0 rfl) ?_
  refine lv_iload_n hx hb dL_law_178 rfl (lv_at hl 3 rfl) ?_
  refine lv_iconst (v := (1 : Int32)) hx hb dL_law_179 (by decide) ?_
  refine lv_iadd hx hb dL_law_180 ?_
  refine va_sld hx hb hX hbl hbA hG.2.2.2.2 h1 dL_law_181 ?_
  refine lv_aload_n hx hb dL_law_182 rfl (lv_at hl 0 rfl) ?_
  refine lv_iload_n hx hb dL_law_183 rfl (lv_at hl 3 rfl) ?_
  refine lv_iconst (v := (2 : Int32)) hx hb dL_law_184 (by decide) ?_
  refine lv_iadd hx hb dL_law_185 ?_
  refine va_sld hx hb hX hbl hbA hG.2.2.2.2 h2 dL_law_186 ?_
  refine lv_aload_n hx hb dL_law_187 rfl (lv_at hl 0 rfl) ?_
  refine lv_iload_n hx hb dL_law_188 rfl (lv_at hl 3 rfl) ?_
  refine lv_iconst (v := (3 : Int32)) hx hb dL_law_189 (by decide) ?_
  refine lv_iadd hx hb dL_law_190 ?_
  refine va_sld hx hb hX hbl hbA hG.2.2.2.2 h3 dL_law_191 ?_
  refine lv_aload_n hx hb dL_law_192 rfl (lv_at hl 0 rfl) ?_
  refine lv_iload_n hx hb dL_law_193 rfl (lv_at hl 3 rfl) ?_
  refine lv_iconst (v := (4 : Int32)) hx hb dL_law_194 (by decide) ?_
  refine lv_iadd hx hb dL_law_195 ?_
  refine va_sld hx hb hX hbl hbA hG.2.2.2.2 h4 dL_law_196 ?_
  refine zl_calli (va_runV (As := [.int (xs (v + 1).toNatClampNeg), .int (xs (v + 2).toNatClampNeg), .int (xs (v + 3).toNatClampNeg), .int (xs (v + 4).toNatClampNeg)]) (rest := []) ⟨hx, hb, hml, hown, hts⟩ (mX6_mine l D ad cA (xs (v + 1).toNatClampNeg) (xs (v + 2).toNatClampNeg) (xs (v + 3).toNatClampNeg) (xs (v + 4).toNatClampNeg) I r I1 eX _) (cwV 4 hts gL_law_X6_mine rfl rfl rfl hd_X6_mine ⟨Nat.le_of_ble_eq_true rfl, Nat.le_of_ble_eq_true rfl⟩) (zl_preV hG shX_0 vc_6) rfl rfl hl.1 rfl (lv_room (Nat.le_of_ble_eq_true rfl)) dL_law_197 ⟨Nat.le_of_ble_eq_true rfl, Nat.le_of_ble_eq_true rfl⟩) hG (fun H locs hG => ?_)
  refine lv_aload_n hx hb dL_law_200 rfl (lv_at hl 2 rfl) ?_
  refine lv_aload_n hx hb dL_law_201 rfl (lv_at hl 0 rfl) ?_
  refine lv_iload_n hx hb dL_law_202 rfl (lv_at hl 3 rfl) ?_
  refine lv_iconst (v := (1 : Int32)) hx hb dL_law_203 (by decide) ?_
  refine lv_iadd hx hb dL_law_204 ?_
  refine va_sld hx hb hX hbl hbA hG.2.2.2.2 h1 dL_law_205 ?_
  refine lv_aload_n hx hb dL_law_206 rfl (lv_at hl 0 rfl) ?_
  refine lv_iload_n hx hb dL_law_207 rfl (lv_at hl 3 rfl) ?_
  refine lv_iconst (v := (2 : Int32)) hx hb dL_law_208 (by decide) ?_
  refine lv_iadd hx hb dL_law_209 ?_
  refine va_sld hx hb hX hbl hbA hG.2.2.2.2 h2 dL_law_210 ?_
  refine lv_aload_n hx hb dL_law_211 rfl (lv_at hl 0 rfl) ?_
  refine lv_iload_n hx hb dL_law_212 rfl (lv_at hl 3 rfl) ?_
  refine lv_iconst (v := (3 : Int32)) hx hb dL_law_213 (by decide) ?_
  refine lv_iadd hx hb dL_law_214 ?_
  refine va_sld hx hb hX hbl hbA hG.2.2.2.2 h3 dL_law_215 ?_
  refine lv_aload_n hx hb dL_law_216 rfl (lv_at hl 0 rfl) ?_
  refine lv_iload_n hx hb dL_law_217 rfl (lv_at hl 3 rfl) ?_
  refine lv_iconst (v := (4 : Int32)) hx hb dL_law_218 (by decide) ?_
  refine lv_iadd hx hb dL_law_219 ?_
  refine va_sld hx hb hX hbl hbA hG.2.2.2.2 h4 dL_law_220 ?_
  refine zl_calli (va_runV (As := [.int (xs (v + 1).toNatClampNeg), .int (xs (v + 2).toNatClampNeg), .int (xs (v + 3).toNatClampNeg), .int (xs (v + 4).toNatClampNeg)]) (rest := [.int r]) ⟨hx, hb, hml, hown, hts⟩ (mX7_mine l D bd cA (xs (v + 1).toNatClampNeg) (xs (v + 2).toNatClampNeg) (xs (v + 3).toNatClampNeg) (xs (v + 4).toNatClampNeg) J r J1 eM _) (cwV 4 hts gL_law_X7_mine rfl rfl rfl hd_X7_mine ⟨Nat.le_of_ble_eq_true rfl, Nat.le_of_ble_eq_true rfl⟩) (zl_preV (zl2_swap hG) shM_0 vc_7) rfl rfl hl.1 rfl (lv_room (Nat.le_of_ble_eq_true rfl)) dL_law_221 ⟨Nat.le_of_ble_eq_true rfl, Nat.le_of_ble_eq_true rfl⟩) (zl2_swap hG) (fun H locs hG => ?_)
  refine lv_icmp_eq (tgt := 1264) hx hb dL_law_224 (by decide) (fun _ => ?_) (fun z => absurd rfl z)
  exact kk _ _ _ _ (zl2_swap hG) hR
set_option maxHeartbeats 4000000 in
set_option maxRecDepth 100000 in
theorem zlc_1 {p : Program} {l : Launch} {e : Env} {s : State} {m : MethodId} {below : List Frame} {meth : Method} {c : Code} {H : Heap} {locs : List Loc} {Q : State → Prop} {ls : Array Slot} {D : va_G} {cA : Nat → ClassId} {ad bd : Nat → Nat} {I J : zxI} {b L : Nat} {xs : Nat → Int32} {v : Int32} (C0 : zlC p s m meth c b L xs) (hG : zl2 D cA shX ad I shM bd J s H locs) (h : zR I J) (hl : lv_has ls 4 [(0, .ref b), (1, .ref (ad 0)), (2, .ref (bd 0)), (3, .int v)]) (h1 : vp_in (v + 1) L) (h2 : vp_in (v + 2) L) (h3 : vp_in (v + 3) L) (h4 : vp_in (v + 4) L) (h5 : vp_in (v + 5) L) (kk : ∀ (H1 : Heap) (locs1 : List Loc) (I1 J1 : zxI), zl2 D cA shX ad I1 shM bd J1 s H1 locs1 → zR I1 J1 → W p l e room_1 s m #[Value.ref b] below meth c H1 locs1 58 825 Q (F0 m 1264 ls [])) : W p l e room_1 s m #[Value.ref b] below meth c H locs 58 825 Q (F0 m 229 ls []) := by
  obtain ⟨hx, hb, hml, hown, hts, hX, hbl⟩ := C0
  have hbA : ¬ (fun q : Nat => s.heap.size ≤ q) b := Nat.not_le.mpr hbl
  obtain ⟨r, I1, J1, eX, eM, hR⟩ := zop_ofGallery h (xs (v + 1).toNatClampNeg) (xs (v + 2).toNatClampNeg)
  refine lv_aload_n hx hb dL_law_229 rfl (lv_at hl 1 rfl) ?_
  refine lv_aload_n hx hb dL_law_230 rfl (lv_at hl 0 rfl) ?_
  refine lv_iload_n hx hb dL_law_231 rfl (lv_at hl 3 rfl) ?_
  refine lv_iconst (v := (1 : Int32)) hx hb dL_law_232 (by decide) ?_
  refine lv_iadd hx hb dL_law_233 ?_
  refine va_sld hx hb hX hbl hbA hG.2.2.2.2 h1 dL_law_234 ?_
  refine lv_aload_n hx hb dL_law_235 rfl (lv_at hl 0 rfl) ?_
  refine lv_iload_n hx hb dL_law_236 rfl (lv_at hl 3 rfl) ?_
  refine lv_iconst (v := (2 : Int32)) hx hb dL_law_237 (by decide) ?_
  refine lv_iadd hx hb dL_law_238 ?_
  refine va_sld hx hb hX hbl hbA hG.2.2.2.2 h2 dL_law_239 ?_
  refine zl_calli (va_runV (As := [.int (xs (v + 1).toNatClampNeg), .int (xs (v + 2).toNatClampNeg)]) (rest := []) ⟨hx, hb, hml, hown, hts⟩ (mX6_ofGallery l D ad cA (xs (v + 1).toNatClampNeg) (xs (v + 2).toNatClampNeg) I r I1 eX _) (cwV 2 hts gL_law_X6_ofGallery rfl rfl rfl hd_X6_ofGallery ⟨Nat.le_of_ble_eq_true rfl, Nat.le_of_ble_eq_true rfl⟩) (zl_preV hG shX_0 vc_6) rfl rfl hl.1 rfl (lv_room (Nat.le_of_ble_eq_true rfl)) dL_law_240 ⟨Nat.le_of_ble_eq_true rfl, Nat.le_of_ble_eq_true rfl⟩) hG (fun H locs hG => ?_)
  refine lv_aload_n hx hb dL_law_243 rfl (lv_at hl 2 rfl) ?_
  refine lv_aload_n hx hb dL_law_244 rfl (lv_at hl 0 rfl) ?_
  refine lv_iload_n hx hb dL_law_245 rfl (lv_at hl 3 rfl) ?_
  refine lv_iconst (v := (1 : Int32)) hx hb dL_law_246 (by decide) ?_
  refine lv_iadd hx hb dL_law_247 ?_
  refine va_sld hx hb hX hbl hbA hG.2.2.2.2 h1 dL_law_248 ?_
  refine lv_aload_n hx hb dL_law_249 rfl (lv_at hl 0 rfl) ?_
  refine lv_iload_n hx hb dL_law_250 rfl (lv_at hl 3 rfl) ?_
  refine lv_iconst (v := (2 : Int32)) hx hb dL_law_251 (by decide) ?_
  refine lv_iadd hx hb dL_law_252 ?_
  refine va_sld hx hb hX hbl hbA hG.2.2.2.2 h2 dL_law_253 ?_
  refine zl_calli (va_runV (As := [.int (xs (v + 1).toNatClampNeg), .int (xs (v + 2).toNatClampNeg)]) (rest := [.int r]) ⟨hx, hb, hml, hown, hts⟩ (mX7_ofGallery l D bd cA (xs (v + 1).toNatClampNeg) (xs (v + 2).toNatClampNeg) J r J1 eM _) (cwV 2 hts gL_law_X7_ofGallery rfl rfl rfl hd_X7_ofGallery ⟨Nat.le_of_ble_eq_true rfl, Nat.le_of_ble_eq_true rfl⟩) (zl_preV (zl2_swap hG) shM_0 vc_7) rfl rfl hl.1 rfl (lv_room (Nat.le_of_ble_eq_true rfl)) dL_law_254 ⟨Nat.le_of_ble_eq_true rfl, Nat.le_of_ble_eq_true rfl⟩) (zl2_swap hG) (fun H locs hG => ?_)
  refine lv_icmp_eq (tgt := 1264) hx hb dL_law_257 (by decide) (fun _ => ?_) (fun z => absurd rfl z)
  exact kk _ _ _ _ (zl2_swap hG) hR
set_option maxHeartbeats 4000000 in
set_option maxRecDepth 100000 in
theorem zlc_2 {p : Program} {l : Launch} {e : Env} {s : State} {m : MethodId} {below : List Frame} {meth : Method} {c : Code} {H : Heap} {locs : List Loc} {Q : State → Prop} {ls : Array Slot} {D : va_G} {cA : Nat → ClassId} {ad bd : Nat → Nat} {I J : zxI} {b L : Nat} {xs : Nat → Int32} {v : Int32} (C0 : zlC p s m meth c b L xs) (hG : zl2 D cA shX ad I shM bd J s H locs) (h : zR I J) (hl : lv_has ls 4 [(0, .ref b), (1, .ref (ad 0)), (2, .ref (bd 0)), (3, .int v)]) (h1 : vp_in (v + 1) L) (h2 : vp_in (v + 2) L) (h3 : vp_in (v + 3) L) (h4 : vp_in (v + 4) L) (h5 : vp_in (v + 5) L) (kk : ∀ (H1 : Heap) (locs1 : List Loc) (I1 J1 : zxI), zl2 D cA shX ad I1 shM bd J1 s H1 locs1 → zR I1 J1 → W p l e room_1 s m #[Value.ref b] below meth c H1 locs1 58 825 Q (F0 m 1264 ls [])) : W p l e room_1 s m #[Value.ref b] below meth c H locs 58 825 Q (F0 m 262 ls []) := by
  obtain ⟨hx, hb, hml, hown, hts, hX, hbl⟩ := C0
  have hbA : ¬ (fun q : Nat => s.heap.size ≤ q) b := Nat.not_le.mpr hbl
  obtain ⟨r, I1, J1, eX, eM, hR⟩ := zop_bad h (xs (v + 1).toNatClampNeg)
  refine lv_aload_n hx hb dL_law_262 rfl (lv_at hl 1 rfl) ?_
  refine lv_aload_n hx hb dL_law_263 rfl (lv_at hl 0 rfl) ?_
  refine lv_iload_n hx hb dL_law_264 rfl (lv_at hl 3 rfl) ?_
  refine lv_iconst (v := (1 : Int32)) hx hb dL_law_265 (by decide) ?_
  refine lv_iadd hx hb dL_law_266 ?_
  refine va_sld hx hb hX hbl hbA hG.2.2.2.2 h1 dL_law_267 ?_
  refine zl_calli (va_runV (As := [.int (xs (v + 1).toNatClampNeg)]) (rest := []) ⟨hx, hb, hml, hown, hts⟩ (mX6_bad l D ad cA (xs (v + 1).toNatClampNeg) I r I1 eX _) (cwV 1 hts gL_law_X6_bad rfl rfl rfl hd_X6_bad ⟨Nat.le_of_ble_eq_true rfl, Nat.le_of_ble_eq_true rfl⟩) (zl_preV hG shX_0 vc_6) rfl rfl hl.1 rfl (lv_room (Nat.le_of_ble_eq_true rfl)) dL_law_268 ⟨Nat.le_of_ble_eq_true rfl, Nat.le_of_ble_eq_true rfl⟩) hG (fun H locs hG => ?_)
  refine lv_aload_n hx hb dL_law_271 rfl (lv_at hl 2 rfl) ?_
  refine lv_aload_n hx hb dL_law_272 rfl (lv_at hl 0 rfl) ?_
  refine lv_iload_n hx hb dL_law_273 rfl (lv_at hl 3 rfl) ?_
  refine lv_iconst (v := (1 : Int32)) hx hb dL_law_274 (by decide) ?_
  refine lv_iadd hx hb dL_law_275 ?_
  refine va_sld hx hb hX hbl hbA hG.2.2.2.2 h1 dL_law_276 ?_
  refine zl_calli (va_runV (As := [.int (xs (v + 1).toNatClampNeg)]) (rest := [.int r]) ⟨hx, hb, hml, hown, hts⟩ (mX7_bad l D bd cA (xs (v + 1).toNatClampNeg) J r J1 eM _) (cwV 1 hts gL_law_X7_bad rfl rfl rfl hd_X7_bad ⟨Nat.le_of_ble_eq_true rfl, Nat.le_of_ble_eq_true rfl⟩) (zl_preV (zl2_swap hG) shM_0 vc_7) rfl rfl hl.1 rfl (lv_room (Nat.le_of_ble_eq_true rfl)) dL_law_277 ⟨Nat.le_of_ble_eq_true rfl, Nat.le_of_ble_eq_true rfl⟩) (zl2_swap hG) (fun H locs hG => ?_)
  refine lv_icmp_eq (tgt := 1264) hx hb dL_law_280 (by decide) (fun _ => ?_) (fun z => absurd rfl z)
  exact kk _ _ _ _ (zl2_swap hG) hR
set_option maxHeartbeats 4000000 in
set_option maxRecDepth 100000 in
theorem zlc_3 {p : Program} {l : Launch} {e : Env} {s : State} {m : MethodId} {below : List Frame} {meth : Method} {c : Code} {H : Heap} {locs : List Loc} {Q : State → Prop} {ls : Array Slot} {D : va_G} {cA : Nat → ClassId} {ad bd : Nat → Nat} {I J : zxI} {b L : Nat} {xs : Nat → Int32} {v : Int32} (C0 : zlC p s m meth c b L xs) (hG : zl2 D cA shX ad I shM bd J s H locs) (h : zR I J) (hl : lv_has ls 4 [(0, .ref b), (1, .ref (ad 0)), (2, .ref (bd 0)), (3, .int v)]) (h1 : vp_in (v + 1) L) (h2 : vp_in (v + 2) L) (h3 : vp_in (v + 3) L) (h4 : vp_in (v + 4) L) (h5 : vp_in (v + 5) L) (kk : ∀ (H1 : Heap) (locs1 : List Loc) (I1 J1 : zxI), zl2 D cA shX ad I1 shM bd J1 s H1 locs1 → zR I1 J1 → W p l e room_1 s m #[Value.ref b] below meth c H1 locs1 58 825 Q (F0 m 1264 ls [])) : W p l e room_1 s m #[Value.ref b] below meth c H locs 58 825 Q (F0 m 285 ls []) := by
  obtain ⟨hx, hb, hml, hown, hts, hX, hbl⟩ := C0
  have hbA : ¬ (fun q : Nat => s.heap.size ≤ q) b := Nat.not_le.mpr hbl
  obtain ⟨r, I1, J1, eX, eM, hR⟩ := zop_foul h (xs (v + 1).toNatClampNeg) (xs (v + 2).toNatClampNeg)
  refine lv_aload_n hx hb dL_law_285 rfl (lv_at hl 1 rfl) ?_
  refine lv_aload_n hx hb dL_law_286 rfl (lv_at hl 0 rfl) ?_
  refine lv_iload_n hx hb dL_law_287 rfl (lv_at hl 3 rfl) ?_
  refine lv_iconst (v := (1 : Int32)) hx hb dL_law_288 (by decide) ?_
  refine lv_iadd hx hb dL_law_289 ?_
  refine va_sld hx hb hX hbl hbA hG.2.2.2.2 h1 dL_law_290 ?_
  refine lv_aload_n hx hb dL_law_291 rfl (lv_at hl 0 rfl) ?_
  refine lv_iload_n hx hb dL_law_292 rfl (lv_at hl 3 rfl) ?_
  refine lv_iconst (v := (2 : Int32)) hx hb dL_law_293 (by decide) ?_
  refine lv_iadd hx hb dL_law_294 ?_
  refine va_sld hx hb hX hbl hbA hG.2.2.2.2 h2 dL_law_295 ?_
  refine zl_calli (va_runV (As := [.int (xs (v + 1).toNatClampNeg), .int (xs (v + 2).toNatClampNeg)]) (rest := []) ⟨hx, hb, hml, hown, hts⟩ (mX6_foul l D ad cA (xs (v + 1).toNatClampNeg) (xs (v + 2).toNatClampNeg) I r I1 eX _) (cwV 2 hts gL_law_X6_foul rfl rfl rfl hd_X6_foul ⟨Nat.le_of_ble_eq_true rfl, Nat.le_of_ble_eq_true rfl⟩) (zl_preV hG shX_0 vc_6) rfl rfl hl.1 rfl (lv_room (Nat.le_of_ble_eq_true rfl)) dL_law_296 ⟨Nat.le_of_ble_eq_true rfl, Nat.le_of_ble_eq_true rfl⟩) hG (fun H locs hG => ?_)
  refine lv_aload_n hx hb dL_law_299 rfl (lv_at hl 2 rfl) ?_
  refine lv_aload_n hx hb dL_law_300 rfl (lv_at hl 0 rfl) ?_
  refine lv_iload_n hx hb dL_law_301 rfl (lv_at hl 3 rfl) ?_
  refine lv_iconst (v := (1 : Int32)) hx hb dL_law_302 (by decide) ?_
  refine lv_iadd hx hb dL_law_303 ?_
  refine va_sld hx hb hX hbl hbA hG.2.2.2.2 h1 dL_law_304 ?_
  refine lv_aload_n hx hb dL_law_305 rfl (lv_at hl 0 rfl) ?_
  refine lv_iload_n hx hb dL_law_306 rfl (lv_at hl 3 rfl) ?_
  refine lv_iconst (v := (2 : Int32)) hx hb dL_law_307 (by decide) ?_
  refine lv_iadd hx hb dL_law_308 ?_
  refine va_sld hx hb hX hbl hbA hG.2.2.2.2 h2 dL_law_309 ?_
  refine zl_calli (va_runV (As := [.int (xs (v + 1).toNatClampNeg), .int (xs (v + 2).toNatClampNeg)]) (rest := [.int r]) ⟨hx, hb, hml, hown, hts⟩ (mX7_foul l D bd cA (xs (v + 1).toNatClampNeg) (xs (v + 2).toNatClampNeg) J r J1 eM _) (cwV 2 hts gL_law_X7_foul rfl rfl rfl hd_X7_foul ⟨Nat.le_of_ble_eq_true rfl, Nat.le_of_ble_eq_true rfl⟩) (zl_preV (zl2_swap hG) shM_0 vc_7) rfl rfl hl.1 rfl (lv_room (Nat.le_of_ble_eq_true rfl)) dL_law_310 ⟨Nat.le_of_ble_eq_true rfl, Nat.le_of_ble_eq_true rfl⟩) (zl2_swap hG) (fun H locs hG => ?_)
  refine lv_icmp_eq (tgt := 1264) hx hb dL_law_313 (by decide) (fun _ => ?_) (fun z => absurd rfl z)
  exact kk _ _ _ _ (zl2_swap hG) hR
set_option maxHeartbeats 4000000 in
set_option maxRecDepth 100000 in
theorem zlc_4 {p : Program} {l : Launch} {e : Env} {s : State} {m : MethodId} {below : List Frame} {meth : Method} {c : Code} {H : Heap} {locs : List Loc} {Q : State → Prop} {ls : Array Slot} {D : va_G} {cA : Nat → ClassId} {ad bd : Nat → Nat} {I J : zxI} {b L : Nat} {xs : Nat → Int32} {v : Int32} (C0 : zlC p s m meth c b L xs) (hG : zl2 D cA shX ad I shM bd J s H locs) (h : zR I J) (hl : lv_has ls 4 [(0, .ref b), (1, .ref (ad 0)), (2, .ref (bd 0)), (3, .int v)]) (h1 : vp_in (v + 1) L) (h2 : vp_in (v + 2) L) (h3 : vp_in (v + 3) L) (h4 : vp_in (v + 4) L) (h5 : vp_in (v + 5) L) (kk : ∀ (H1 : Heap) (locs1 : List Loc) (I1 J1 : zxI), zl2 D cA shX ad I1 shM bd J1 s H1 locs1 → zR I1 J1 → W p l e room_1 s m #[Value.ref b] below meth c H1 locs1 58 825 Q (F0 m 1264 ls [])) : W p l e room_1 s m #[Value.ref b] below meth c H locs 58 825 Q (F0 m 318 ls []) := by
  obtain ⟨hx, hb, hml, hown, hts, hX, hbl⟩ := C0
  have hbA : ¬ (fun q : Nat => s.heap.size ≤ q) b := Nat.not_le.mpr hbl
  obtain ⟨r, I1, J1, eX, eM, hR⟩ := zop_breed h (xs (v + 1).toNatClampNeg) (xs (v + 2).toNatClampNeg)
  refine lv_aload_n hx hb dL_law_318 rfl (lv_at hl 1 rfl) ?_
  refine lv_aload_n hx hb dL_law_319 rfl (lv_at hl 0 rfl) ?_
  refine lv_iload_n hx hb dL_law_320 rfl (lv_at hl 3 rfl) ?_
  refine lv_iconst (v := (1 : Int32)) hx hb dL_law_321 (by decide) ?_
  refine lv_iadd hx hb dL_law_322 ?_
  refine va_sld hx hb hX hbl hbA hG.2.2.2.2 h1 dL_law_323 ?_
  refine lv_aload_n hx hb dL_law_324 rfl (lv_at hl 0 rfl) ?_
  refine lv_iload_n hx hb dL_law_325 rfl (lv_at hl 3 rfl) ?_
  refine lv_iconst (v := (2 : Int32)) hx hb dL_law_326 (by decide) ?_
  refine lv_iadd hx hb dL_law_327 ?_
  refine va_sld hx hb hX hbl hbA hG.2.2.2.2 h2 dL_law_328 ?_
  refine zl_calli (va_runV (As := [.int (xs (v + 1).toNatClampNeg), .int (xs (v + 2).toNatClampNeg)]) (rest := []) ⟨hx, hb, hml, hown, hts⟩ (mX6_breed l D ad cA (xs (v + 1).toNatClampNeg) (xs (v + 2).toNatClampNeg) I r I1 eX _) (cwV 2 hts gL_law_X6_breed rfl rfl rfl hd_X6_breed ⟨Nat.le_of_ble_eq_true rfl, Nat.le_of_ble_eq_true rfl⟩) (zl_preV hG shX_0 vc_6) rfl rfl hl.1 rfl (lv_room (Nat.le_of_ble_eq_true rfl)) dL_law_329 ⟨Nat.le_of_ble_eq_true rfl, Nat.le_of_ble_eq_true rfl⟩) hG (fun H locs hG => ?_)
  refine lv_aload_n hx hb dL_law_332 rfl (lv_at hl 2 rfl) ?_
  refine lv_aload_n hx hb dL_law_333 rfl (lv_at hl 0 rfl) ?_
  refine lv_iload_n hx hb dL_law_334 rfl (lv_at hl 3 rfl) ?_
  refine lv_iconst (v := (1 : Int32)) hx hb dL_law_335 (by decide) ?_
  refine lv_iadd hx hb dL_law_336 ?_
  refine va_sld hx hb hX hbl hbA hG.2.2.2.2 h1 dL_law_337 ?_
  refine lv_aload_n hx hb dL_law_338 rfl (lv_at hl 0 rfl) ?_
  refine lv_iload_n hx hb dL_law_339 rfl (lv_at hl 3 rfl) ?_
  refine lv_iconst (v := (2 : Int32)) hx hb dL_law_340 (by decide) ?_
  refine lv_iadd hx hb dL_law_341 ?_
  refine va_sld hx hb hX hbl hbA hG.2.2.2.2 h2 dL_law_342 ?_
  refine zl_calli (va_runV (As := [.int (xs (v + 1).toNatClampNeg), .int (xs (v + 2).toNatClampNeg)]) (rest := [.int r]) ⟨hx, hb, hml, hown, hts⟩ (mX7_breed l D bd cA (xs (v + 1).toNatClampNeg) (xs (v + 2).toNatClampNeg) J r J1 eM _) (cwV 2 hts gL_law_X7_breed rfl rfl rfl hd_X7_breed ⟨Nat.le_of_ble_eq_true rfl, Nat.le_of_ble_eq_true rfl⟩) (zl_preV (zl2_swap hG) shM_0 vc_7) rfl rfl hl.1 rfl (lv_room (Nat.le_of_ble_eq_true rfl)) dL_law_343 ⟨Nat.le_of_ble_eq_true rfl, Nat.le_of_ble_eq_true rfl⟩) (zl2_swap hG) (fun H locs hG => ?_)
  refine lv_icmp_eq (tgt := 1264) hx hb dL_law_346 (by decide) (fun _ => ?_) (fun z => absurd rfl z)
  exact kk _ _ _ _ (zl2_swap hG) hR
set_option maxHeartbeats 4000000 in
set_option maxRecDepth 100000 in
theorem zlc_5 {p : Program} {l : Launch} {e : Env} {s : State} {m : MethodId} {below : List Frame} {meth : Method} {c : Code} {H : Heap} {locs : List Loc} {Q : State → Prop} {ls : Array Slot} {D : va_G} {cA : Nat → ClassId} {ad bd : Nat → Nat} {I J : zxI} {b L : Nat} {xs : Nat → Int32} {v : Int32} (C0 : zlC p s m meth c b L xs) (hG : zl2 D cA shX ad I shM bd J s H locs) (h : zR I J) (hl : lv_has ls 4 [(0, .ref b), (1, .ref (ad 0)), (2, .ref (bd 0)), (3, .int v)]) (h1 : vp_in (v + 1) L) (h2 : vp_in (v + 2) L) (h3 : vp_in (v + 3) L) (h4 : vp_in (v + 4) L) (h5 : vp_in (v + 5) L) (kk : ∀ (H1 : Heap) (locs1 : List Loc) (I1 J1 : zxI), zl2 D cA shX ad I1 shM bd J1 s H1 locs1 → zR I1 J1 → W p l e room_1 s m #[Value.ref b] below meth c H1 locs1 58 825 Q (F0 m 1264 ls [])) : W p l e room_1 s m #[Value.ref b] below meth c H locs 58 825 Q (F0 m 351 ls []) := by
  obtain ⟨hx, hb, hml, hown, hts, hX, hbl⟩ := C0
  have hbA : ¬ (fun q : Nat => s.heap.size ≤ q) b := Nat.not_le.mpr hbl
  obtain ⟨r, I1, J1, eX, eM, hR⟩ := zop_door h (xs (v + 1).toNatClampNeg) (xs (v + 2).toNatClampNeg)
  refine lv_aload_n hx hb dL_law_351 rfl (lv_at hl 1 rfl) ?_
  refine lv_aload_n hx hb dL_law_352 rfl (lv_at hl 0 rfl) ?_
  refine lv_iload_n hx hb dL_law_353 rfl (lv_at hl 3 rfl) ?_
  refine lv_iconst (v := (1 : Int32)) hx hb dL_law_354 (by decide) ?_
  refine lv_iadd hx hb dL_law_355 ?_
  refine va_sld hx hb hX hbl hbA hG.2.2.2.2 h1 dL_law_356 ?_
  refine lv_aload_n hx hb dL_law_357 rfl (lv_at hl 0 rfl) ?_
  refine lv_iload_n hx hb dL_law_358 rfl (lv_at hl 3 rfl) ?_
  refine lv_iconst (v := (2 : Int32)) hx hb dL_law_359 (by decide) ?_
  refine lv_iadd hx hb dL_law_360 ?_
  refine va_sld hx hb hX hbl hbA hG.2.2.2.2 h2 dL_law_361 ?_
  refine zl_calli (va_runV (As := [.int (xs (v + 1).toNatClampNeg), .int (xs (v + 2).toNatClampNeg)]) (rest := []) ⟨hx, hb, hml, hown, hts⟩ (mX6_door l D ad cA (xs (v + 1).toNatClampNeg) (xs (v + 2).toNatClampNeg) I r I1 eX _) (cwV 2 hts gL_law_X6_door rfl rfl rfl hd_X6_door ⟨Nat.le_of_ble_eq_true rfl, Nat.le_of_ble_eq_true rfl⟩) (zl_preV hG shX_0 vc_6) rfl rfl hl.1 rfl (lv_room (Nat.le_of_ble_eq_true rfl)) dL_law_362 ⟨Nat.le_of_ble_eq_true rfl, Nat.le_of_ble_eq_true rfl⟩) hG (fun H locs hG => ?_)
  refine lv_aload_n hx hb dL_law_365 rfl (lv_at hl 2 rfl) ?_
  refine lv_aload_n hx hb dL_law_366 rfl (lv_at hl 0 rfl) ?_
  refine lv_iload_n hx hb dL_law_367 rfl (lv_at hl 3 rfl) ?_
  refine lv_iconst (v := (1 : Int32)) hx hb dL_law_368 (by decide) ?_
  refine lv_iadd hx hb dL_law_369 ?_
  refine va_sld hx hb hX hbl hbA hG.2.2.2.2 h1 dL_law_370 ?_
  refine lv_aload_n hx hb dL_law_371 rfl (lv_at hl 0 rfl) ?_
  refine lv_iload_n hx hb dL_law_372 rfl (lv_at hl 3 rfl) ?_
  refine lv_iconst (v := (2 : Int32)) hx hb dL_law_373 (by decide) ?_
  refine lv_iadd hx hb dL_law_374 ?_
  refine va_sld hx hb hX hbl hbA hG.2.2.2.2 h2 dL_law_375 ?_
  refine zl_calli (va_runV (As := [.int (xs (v + 1).toNatClampNeg), .int (xs (v + 2).toNatClampNeg)]) (rest := [.int r]) ⟨hx, hb, hml, hown, hts⟩ (mX7_door l D bd cA (xs (v + 1).toNatClampNeg) (xs (v + 2).toNatClampNeg) J r J1 eM _) (cwV 2 hts gL_law_X7_door rfl rfl rfl hd_X7_door ⟨Nat.le_of_ble_eq_true rfl, Nat.le_of_ble_eq_true rfl⟩) (zl_preV (zl2_swap hG) shM_0 vc_7) rfl rfl hl.1 rfl (lv_room (Nat.le_of_ble_eq_true rfl)) dL_law_376 ⟨Nat.le_of_ble_eq_true rfl, Nat.le_of_ble_eq_true rfl⟩) (zl2_swap hG) (fun H locs hG => ?_)
  refine lv_icmp_eq (tgt := 1264) hx hb dL_law_379 (by decide) (fun _ => ?_) (fun z => absurd rfl z)
  exact kk _ _ _ _ (zl2_swap hG) hR
set_option maxHeartbeats 4000000 in
set_option maxRecDepth 100000 in
theorem zlc_6 {p : Program} {l : Launch} {e : Env} {s : State} {m : MethodId} {below : List Frame} {meth : Method} {c : Code} {H : Heap} {locs : List Loc} {Q : State → Prop} {ls : Array Slot} {D : va_G} {cA : Nat → ClassId} {ad bd : Nat → Nat} {I J : zxI} {b L : Nat} {xs : Nat → Int32} {v : Int32} (C0 : zlC p s m meth c b L xs) (hG : zl2 D cA shX ad I shM bd J s H locs) (h : zR I J) (hl : lv_has ls 4 [(0, .ref b), (1, .ref (ad 0)), (2, .ref (bd 0)), (3, .int v)]) (h1 : vp_in (v + 1) L) (h2 : vp_in (v + 2) L) (h3 : vp_in (v + 3) L) (h4 : vp_in (v + 4) L) (h5 : vp_in (v + 5) L) (kk : ∀ (H1 : Heap) (locs1 : List Loc) (I1 J1 : zxI), zl2 D cA shX ad I1 shM bd J1 s H1 locs1 → zR I1 J1 → W p l e room_1 s m #[Value.ref b] below meth c H1 locs1 58 825 Q (F0 m 1264 ls [])) : W p l e room_1 s m #[Value.ref b] below meth c H locs 58 825 Q (F0 m 384 ls []) := by
  obtain ⟨hx, hb, hml, hown, hts, hX, hbl⟩ := C0
  have hbA : ¬ (fun q : Nat => s.heap.size ≤ q) b := Nat.not_le.mpr hbl
  obtain ⟨r, I1, J1, eX, eM, hR⟩ := zop_say h (xs (v + 1).toNatClampNeg) (xs (v + 2).toNatClampNeg)
  refine lv_aload_n hx hb dL_law_384 rfl (lv_at hl 1 rfl) ?_
  refine lv_aload_n hx hb dL_law_385 rfl (lv_at hl 0 rfl) ?_
  refine lv_iload_n hx hb dL_law_386 rfl (lv_at hl 3 rfl) ?_
  refine lv_iconst (v := (1 : Int32)) hx hb dL_law_387 (by decide) ?_
  refine lv_iadd hx hb dL_law_388 ?_
  refine va_sld hx hb hX hbl hbA hG.2.2.2.2 h1 dL_law_389 ?_
  refine lv_aload_n hx hb dL_law_390 rfl (lv_at hl 0 rfl) ?_
  refine lv_iload_n hx hb dL_law_391 rfl (lv_at hl 3 rfl) ?_
  refine lv_iconst (v := (2 : Int32)) hx hb dL_law_392 (by decide) ?_
  refine lv_iadd hx hb dL_law_393 ?_
  refine va_sld hx hb hX hbl hbA hG.2.2.2.2 h2 dL_law_394 ?_
  refine zl_calli (va_runV (As := [.int (xs (v + 1).toNatClampNeg), .int (xs (v + 2).toNatClampNeg)]) (rest := []) ⟨hx, hb, hml, hown, hts⟩ (mX6_say l D ad cA (xs (v + 1).toNatClampNeg) (xs (v + 2).toNatClampNeg) I r I1 eX _) (cwV 2 hts gL_law_X6_say rfl rfl rfl hd_X6_say ⟨Nat.le_of_ble_eq_true rfl, Nat.le_of_ble_eq_true rfl⟩) (zl_preV hG shX_0 vc_6) rfl rfl hl.1 rfl (lv_room (Nat.le_of_ble_eq_true rfl)) dL_law_395 ⟨Nat.le_of_ble_eq_true rfl, Nat.le_of_ble_eq_true rfl⟩) hG (fun H locs hG => ?_)
  refine lv_aload_n hx hb dL_law_398 rfl (lv_at hl 2 rfl) ?_
  refine lv_aload_n hx hb dL_law_399 rfl (lv_at hl 0 rfl) ?_
  refine lv_iload_n hx hb dL_law_400 rfl (lv_at hl 3 rfl) ?_
  refine lv_iconst (v := (1 : Int32)) hx hb dL_law_401 (by decide) ?_
  refine lv_iadd hx hb dL_law_402 ?_
  refine va_sld hx hb hX hbl hbA hG.2.2.2.2 h1 dL_law_403 ?_
  refine lv_aload_n hx hb dL_law_404 rfl (lv_at hl 0 rfl) ?_
  refine lv_iload_n hx hb dL_law_405 rfl (lv_at hl 3 rfl) ?_
  refine lv_iconst (v := (2 : Int32)) hx hb dL_law_406 (by decide) ?_
  refine lv_iadd hx hb dL_law_407 ?_
  refine va_sld hx hb hX hbl hbA hG.2.2.2.2 h2 dL_law_408 ?_
  refine zl_calli (va_runV (As := [.int (xs (v + 1).toNatClampNeg), .int (xs (v + 2).toNatClampNeg)]) (rest := [.int r]) ⟨hx, hb, hml, hown, hts⟩ (mX7_say l D bd cA (xs (v + 1).toNatClampNeg) (xs (v + 2).toNatClampNeg) J r J1 eM _) (cwV 2 hts gL_law_X7_say rfl rfl rfl hd_X7_say ⟨Nat.le_of_ble_eq_true rfl, Nat.le_of_ble_eq_true rfl⟩) (zl_preV (zl2_swap hG) shM_0 vc_7) rfl rfl hl.1 rfl (lv_room (Nat.le_of_ble_eq_true rfl)) dL_law_409 ⟨Nat.le_of_ble_eq_true rfl, Nat.le_of_ble_eq_true rfl⟩) (zl2_swap hG) (fun H locs hG => ?_)
  refine lv_icmp_eq (tgt := 1264) hx hb dL_law_412 (by decide) (fun _ => ?_) (fun z => absurd rfl z)
  exact kk _ _ _ _ (zl2_swap hG) hR
set_option maxHeartbeats 4000000 in
set_option maxRecDepth 100000 in
theorem zlc_7 {p : Program} {l : Launch} {e : Env} {s : State} {m : MethodId} {below : List Frame} {meth : Method} {c : Code} {H : Heap} {locs : List Loc} {Q : State → Prop} {ls : Array Slot} {D : va_G} {cA : Nat → ClassId} {ad bd : Nat → Nat} {I J : zxI} {b L : Nat} {xs : Nat → Int32} {v : Int32} (C0 : zlC p s m meth c b L xs) (hG : zl2 D cA shX ad I shM bd J s H locs) (h : zR I J) (hl : lv_has ls 4 [(0, .ref b), (1, .ref (ad 0)), (2, .ref (bd 0)), (3, .int v)]) (h1 : vp_in (v + 1) L) (h2 : vp_in (v + 2) L) (h3 : vp_in (v + 3) L) (h4 : vp_in (v + 4) L) (h5 : vp_in (v + 5) L) (kk : ∀ (H1 : Heap) (locs1 : List Loc) (I1 J1 : zxI), zl2 D cA shX ad I1 shM bd J1 s H1 locs1 → zR I1 J1 → W p l e room_1 s m #[Value.ref b] below meth c H1 locs1 58 825 Q (F0 m 1264 ls [])) : W p l e room_1 s m #[Value.ref b] below meth c H locs 58 825 Q (F0 m 417 ls []) := by
  obtain ⟨hx, hb, hml, hown, hts, hX, hbl⟩ := C0
  have hbA : ¬ (fun q : Nat => s.heap.size ≤ q) b := Nat.not_le.mpr hbl
  obtain ⟨r, I1, J1, eX, eM, hR⟩ := zop_hush h (xs (v + 1).toNatClampNeg)
  refine lv_aload_n hx hb dL_law_417 rfl (lv_at hl 1 rfl) ?_
  refine lv_aload_n hx hb dL_law_418 rfl (lv_at hl 0 rfl) ?_
  refine lv_iload_n hx hb dL_law_419 rfl (lv_at hl 3 rfl) ?_
  refine lv_iconst (v := (1 : Int32)) hx hb dL_law_420 (by decide) ?_
  refine lv_iadd hx hb dL_law_421 ?_
  refine va_sld hx hb hX hbl hbA hG.2.2.2.2 h1 dL_law_422 ?_
  refine zl_calli (va_runV (As := [.int (xs (v + 1).toNatClampNeg)]) (rest := []) ⟨hx, hb, hml, hown, hts⟩ (mX6_hush l D ad cA (xs (v + 1).toNatClampNeg) I r I1 eX _) (cwV 1 hts gL_law_X6_hush rfl rfl rfl hd_X6_hush ⟨Nat.le_of_ble_eq_true rfl, Nat.le_of_ble_eq_true rfl⟩) (zl_preV hG shX_0 vc_6) rfl rfl hl.1 rfl (lv_room (Nat.le_of_ble_eq_true rfl)) dL_law_423 ⟨Nat.le_of_ble_eq_true rfl, Nat.le_of_ble_eq_true rfl⟩) hG (fun H locs hG => ?_)
  refine lv_aload_n hx hb dL_law_426 rfl (lv_at hl 2 rfl) ?_
  refine lv_aload_n hx hb dL_law_427 rfl (lv_at hl 0 rfl) ?_
  refine lv_iload_n hx hb dL_law_428 rfl (lv_at hl 3 rfl) ?_
  refine lv_iconst (v := (1 : Int32)) hx hb dL_law_429 (by decide) ?_
  refine lv_iadd hx hb dL_law_430 ?_
  refine va_sld hx hb hX hbl hbA hG.2.2.2.2 h1 dL_law_431 ?_
  refine zl_calli (va_runV (As := [.int (xs (v + 1).toNatClampNeg)]) (rest := [.int r]) ⟨hx, hb, hml, hown, hts⟩ (mX7_hush l D bd cA (xs (v + 1).toNatClampNeg) J r J1 eM _) (cwV 1 hts gL_law_X7_hush rfl rfl rfl hd_X7_hush ⟨Nat.le_of_ble_eq_true rfl, Nat.le_of_ble_eq_true rfl⟩) (zl_preV (zl2_swap hG) shM_0 vc_7) rfl rfl hl.1 rfl (lv_room (Nat.le_of_ble_eq_true rfl)) dL_law_432 ⟨Nat.le_of_ble_eq_true rfl, Nat.le_of_ble_eq_true rfl⟩) (zl2_swap hG) (fun H locs hG => ?_)
  refine lv_icmp_eq (tgt := 1264) hx hb dL_law_435 (by decide) (fun _ => ?_) (fun z => absurd rfl z)
  exact kk _ _ _ _ (zl2_swap hG) hR
