/-! walks of methods (laid by wip/whole/gen.py) -/
set_option maxHeartbeats 4000000 in
set_option maxRecDepth 100000 in
theorem mX7_bad (l : Launch) (D : va_G) (ad : Nat → Nat) (cA : Nat → ClassId) (x1 : Int32) (I : zxI) (r : Int32) (J : zxI) (hf : fX7_bad x1 I = some (r, J)) (sz : Nat) : Met l yX7_bad wsX7_bad { frames := 1, cells := 0, slots := 0, locals := 21 } (va_Pc [.ref (ad 0), .int x1] (zxPre D shM ad cA I sz)) (va_Qi (fun (r2 : Int32) (I2 : zxI) => r2 = r ∧ I2 = J) (zxPost D shM ad cA sz) (zxA shM ad sz)) 0 0 (zxA shM ad sz) := by
  refine zx_start (by decide) rfl (Nat.le_of_ble_eq_true rfl) ?_
  intro p e s m args below meth c ls hx hb hr hts hown hlocks hml hG hl
  have hl : lv_has ls 2 [(0, .ref (ad 0)), (1, .int x1)] := hl
  have hiX7 : ∀ w ∈ wsX70, w ∈ wsX7_bad := fun w h => List.mem_cons_of_mem _ (List.mem_append_right _ h)
  have L1 := hts (Cond.fieldLink RX7 19 "GalleryBirdsModel" "badOf" "[I") (List.mem_of_getElem? (i := 1) rfl)
  unfold fX7_bad at hf
  refine lv_aload_n hx hb dX7_bad_0 rfl (lv_at hl 0 rfl) ?_
  refine lv_iload_n hx hb dX7_bad_1 rfl (lv_at hl 1 rfl) ?_
  obtain ⟨r_1, I_1, h_1, hf⟩ := zx_b hf
  refine zx_calli (va_runV (As := [.int x1]) (rest := []) ⟨hx, hb, hml, hown, hts⟩ (mX7_isWord l D ad cA x1 I r_1 I_1 h_1 _) (cwV 1 hts gX7_bad_X7_isWord rfl rfl rfl hd_X7_isWord ⟨Nat.le_of_ble_eq_true rfl, Nat.le_of_ble_eq_true rfl⟩) (zx_preV hG shM_0 vc_7) rfl rfl hl.1 rfl (lv_room (Nat.le_of_ble_eq_true rfl)) dX7_bad_2 ⟨Nat.le_refl _, Nat.le_refl _⟩) hG (fun H locs hG => ?_)
  refine lv_if_eq (tgt := 17) hx hb dX7_bad_5 (by decide) (fun c_2 => ?_) (fun c_2 => ?_)
  · have hf := zx_pos c_2 hf
    refine lv_iconst (v := (-1 : Int32)) hx hb dX7_bad_17 (by decide) ?_
    exact zx_iret hx hb hr hlocks rfl hG hf dX7_bad_18
  · have hf := zx_neg c_2 hf
    refine lv_aload_n hx hb dX7_bad_8 rfl (lv_at hl 0 rfl) ?_
    refine zx_getR (d := 4) hx hb hts hiX7 hown hG shM_0 vc_7 10 (by decide) rfl L1 dX7_bad_9 ?_
    refine lv_iload_n hx hb dX7_bad_12 rfl (lv_at hl 1 rfl) ?_
    obtain ⟨g_3, hf⟩ := zx_in hf
    refine zx_ald hx hb hG shM_4 g_3 dX7_bad_13 ?_
    refine lv_goto (tgt := 18) hx hb dX7_bad_14 (by decide) ?_
    exact zx_iret hx hb hr hlocks rfl hG hf dX7_bad_18

set_option maxHeartbeats 4000000 in
set_option maxRecDepth 100000 in
theorem mX7_foul (l : Launch) (D : va_G) (ad : Nat → Nat) (cA : Nat → ClassId) (x1 : Int32) (x2 : Int32) (I : zxI) (r : Int32) (J : zxI) (hf : fX7_foul x1 x2 I = some (r, J)) (sz : Nat) : Met l yX7_foul wsX7_foul { frames := 1, cells := 0, slots := 0, locals := 22 } (va_Pc [.ref (ad 0), .int x1, .int x2] (zxPre D shM ad cA I sz)) (va_Qi (fun (r2 : Int32) (I2 : zxI) => r2 = r ∧ I2 = J) (zxPost D shM ad cA sz) (zxA shM ad sz)) 0 0 (zxA shM ad sz) := by
  refine zx_start (by decide) rfl (Nat.le_of_ble_eq_true rfl) ?_
  intro p e s m args below meth c ls hx hb hr hts hown hlocks hml hG hl
  have hl : lv_has ls 4 [(0, .ref (ad 0)), (1, .int x1), (2, .int x2)] := hl
  have hiX7 : ∀ w ∈ wsX70, w ∈ wsX7_foul := fun w h => List.mem_cons_of_mem _ (List.mem_append_right _ h)
  have L1 := hts (Cond.fieldLink RX7 25 "GalleryBirdsModel" "foulNow" "[I") (List.mem_of_getElem? (i := 1) rfl)
  unfold fX7_foul at hf
  refine lv_aload_n hx hb dX7_foul_0 rfl (lv_at hl 0 rfl) ?_
  refine lv_iload_n hx hb dX7_foul_1 rfl (lv_at hl 1 rfl) ?_
  obtain ⟨r_1, I_1, h_1, hf⟩ := zx_b hf
  refine zx_calli (va_runV (As := [.int x1]) (rest := []) ⟨hx, hb, hml, hown, hts⟩ (mX7_isGallery l D ad cA x1 I r_1 I_1 h_1 _) (cwV 1 hts gX7_foul_X7_isGallery rfl rfl rfl hd_X7_isGallery ⟨Nat.le_of_ble_eq_true rfl, Nat.le_of_ble_eq_true rfl⟩) (zx_preV hG shM_0 vc_7) rfl rfl hl.1 rfl (lv_room (Nat.le_of_ble_eq_true rfl)) dX7_foul_2 ⟨Nat.le_refl _, Nat.le_refl _⟩) hG (fun H locs hG => ?_)
  refine lv_if_ne (tgt := 10) hx hb dX7_foul_5 (by decide) (fun c_2 => ?_) (fun c_2 => ?_)
  · have hf := zx_neg c_2 hf
    refine lv_iload_n hx hb dX7_foul_10 rfl (lv_at hl 2 rfl) ?_
    refine lv_iconst (v := (0 : Int32)) hx hb dX7_foul_11 (by decide) ?_
    refine lv_bipush (v := (40 : Int32)) hx hb dX7_foul_12 (by decide) ?_
    obtain ⟨r_3, I_3, h_3, hf⟩ := zx_b hf
    refine zx_calli (va_runS (As := [.int x2, .int (0 : Int32), .int (40 : Int32)]) (rest := []) ⟨hx, hb, hml, hown, hts⟩ (mX7_within l D ad cA x2 (0 : Int32) (40 : Int32) I_1 r_3 I_3 h_3 _) (va_cwS 3 hts gX7_foul_X7_within rfl rfl rfl hd_X7_within ⟨Nat.le_of_ble_eq_true rfl, Nat.le_of_ble_eq_true rfl⟩) (zx_preS hG) rfl rfl hl.1 rfl (lv_room (Nat.le_of_ble_eq_true rfl)) dX7_foul_14 ⟨Nat.le_refl _, Nat.le_refl _⟩) hG (fun H locs hG => ?_)
    refine lv_if_ne (tgt := 23) hx hb dX7_foul_17 (by decide) (fun c_4 => ?_) (fun c_4 => ?_)
    · have hf := zx_neg c_4 hf
      refine lv_aload_n hx hb dX7_foul_23 rfl (lv_at hl 0 rfl) ?_
      refine zx_getR (d := 6) hx hb hts hiX7 hown hG shM_0 vc_7 12 (by decide) rfl L1 dX7_foul_24 ?_
      refine lv_iload_n hx hb dX7_foul_27 rfl (lv_at hl 1 rfl) ?_
      obtain ⟨g_5, hf⟩ := zx_in hf
      refine zx_ald hx hb hG shM_6 g_5 dX7_foul_28 ?_
      refine lv_istore_n (lv' := [(3, .int (I_3 6 x1.toNatClampNeg)), (0, .ref (ad 0)), (1, .int x1), (2, .int x2)]) hx hb dX7_foul_29 rfl hl (by decide) rfl (fun ls hl => ?_)
      refine lv_aload_n hx hb dX7_foul_30 rfl (lv_at hl 1 rfl) ?_
      refine zx_getR (d := 6) hx hb hts hiX7 hown hG shM_0 vc_7 12 (by decide) rfl L1 dX7_foul_31 ?_
      refine lv_iload_n hx hb dX7_foul_34 rfl (lv_at hl 2 rfl) ?_
      refine lv_iload_n hx hb dX7_foul_35 rfl (lv_at hl 3 rfl) ?_
      refine zx_ast hx hb hG shM_6 g_5 dX7_foul_36 (fun H locs hG => ?_)
      refine lv_iload_n hx hb dX7_foul_37 rfl (lv_at hl 0 rfl) ?_
      exact zx_iret hx hb hr hlocks rfl hG hf dX7_foul_38
    · have hf := zx_pos c_4 hf
      refine lv_bipush (v := (-2 : Int32)) hx hb dX7_foul_20 (by decide) ?_
      exact zx_iret hx hb hr hlocks rfl hG hf dX7_foul_22
  · have hf := zx_pos c_2 hf
    refine lv_iconst (v := (-1 : Int32)) hx hb dX7_foul_8 (by decide) ?_
    exact zx_iret hx hb hr hlocks rfl hG hf dX7_foul_9

set_option maxHeartbeats 4000000 in
set_option maxRecDepth 100000 in
theorem mX7_breed (l : Launch) (D : va_G) (ad : Nat → Nat) (cA : Nat → ClassId) (x1 : Int32) (x2 : Int32) (I : zxI) (r : Int32) (J : zxI) (hf : fX7_breed x1 x2 I = some (r, J)) (sz : Nat) : Met l yX7_breed wsX7_breed { frames := 1, cells := 0, slots := 0, locals := 22 } (va_Pc [.ref (ad 0), .int x1, .int x2] (zxPre D shM ad cA I sz)) (va_Qi (fun (r2 : Int32) (I2 : zxI) => r2 = r ∧ I2 = J) (zxPost D shM ad cA sz) (zxA shM ad sz)) 0 0 (zxA shM ad sz) := by
  refine zx_start (by decide) rfl (Nat.le_of_ble_eq_true rfl) ?_
  intro p e s m args below meth c ls hx hb hr hts hown hlocks hml hG hl
  have hl : lv_has ls 4 [(0, .ref (ad 0)), (1, .int x1), (2, .int x2)] := hl
  have hiX7 : ∀ w ∈ wsX70, w ∈ wsX7_breed := fun w h => List.mem_cons_of_mem _ (List.mem_append_right _ h)
  have L1 := hts (Cond.fieldLink RX7 28 "GalleryBirdsModel" "strength" "[I") (List.mem_of_getElem? (i := 1) rfl)
  unfold fX7_breed at hf
  refine lv_aload_n hx hb dX7_breed_0 rfl (lv_at hl 0 rfl) ?_
  refine lv_iload_n hx hb dX7_breed_1 rfl (lv_at hl 1 rfl) ?_
  obtain ⟨r_1, I_1, h_1, hf⟩ := zx_b hf
  refine zx_calli (va_runV (As := [.int x1]) (rest := []) ⟨hx, hb, hml, hown, hts⟩ (mX7_isGallery l D ad cA x1 I r_1 I_1 h_1 _) (cwV 1 hts gX7_breed_X7_isGallery rfl rfl rfl hd_X7_isGallery ⟨Nat.le_of_ble_eq_true rfl, Nat.le_of_ble_eq_true rfl⟩) (zx_preV hG shM_0 vc_7) rfl rfl hl.1 rfl (lv_room (Nat.le_of_ble_eq_true rfl)) dX7_breed_2 ⟨Nat.le_refl _, Nat.le_refl _⟩) hG (fun H locs hG => ?_)
  refine lv_if_ne (tgt := 10) hx hb dX7_breed_5 (by decide) (fun c_2 => ?_) (fun c_2 => ?_)
  · have hf := zx_neg c_2 hf
    refine lv_iload_n hx hb dX7_breed_10 rfl (lv_at hl 2 rfl) ?_
    refine lv_iconst (v := (1 : Int32)) hx hb dX7_breed_11 (by decide) ?_
    refine lv_bipush (v := (9 : Int32)) hx hb dX7_breed_12 (by decide) ?_
    obtain ⟨r_3, I_3, h_3, hf⟩ := zx_b hf
    refine zx_calli (va_runS (As := [.int x2, .int (1 : Int32), .int (9 : Int32)]) (rest := []) ⟨hx, hb, hml, hown, hts⟩ (mX7_within l D ad cA x2 (1 : Int32) (9 : Int32) I_1 r_3 I_3 h_3 _) (va_cwS 3 hts gX7_breed_X7_within rfl rfl rfl hd_X7_within ⟨Nat.le_of_ble_eq_true rfl, Nat.le_of_ble_eq_true rfl⟩) (zx_preS hG) rfl rfl hl.1 rfl (lv_room (Nat.le_of_ble_eq_true rfl)) dX7_breed_14 ⟨Nat.le_refl _, Nat.le_refl _⟩) hG (fun H locs hG => ?_)
    refine lv_if_ne (tgt := 23) hx hb dX7_breed_17 (by decide) (fun c_4 => ?_) (fun c_4 => ?_)
    · have hf := zx_neg c_4 hf
      refine lv_aload_n hx hb dX7_breed_23 rfl (lv_at hl 0 rfl) ?_
      refine zx_getR (d := 7) hx hb hts hiX7 hown hG shM_0 vc_7 13 (by decide) rfl L1 dX7_breed_24 ?_
      refine lv_iload_n hx hb dX7_breed_27 rfl (lv_at hl 1 rfl) ?_
      obtain ⟨g_5, hf⟩ := zx_in hf
      refine zx_ald hx hb hG shM_7 g_5 dX7_breed_28 ?_
      refine lv_istore_n (lv' := [(3, .int (I_3 7 x1.toNatClampNeg)), (0, .ref (ad 0)), (1, .int x1), (2, .int x2)]) hx hb dX7_breed_29 rfl hl (by decide) rfl (fun ls hl => ?_)
      refine lv_aload_n hx hb dX7_breed_30 rfl (lv_at hl 1 rfl) ?_
      refine zx_getR (d := 7) hx hb hts hiX7 hown hG shM_0 vc_7 13 (by decide) rfl L1 dX7_breed_31 ?_
      refine lv_iload_n hx hb dX7_breed_34 rfl (lv_at hl 2 rfl) ?_
      refine lv_iload_n hx hb dX7_breed_35 rfl (lv_at hl 3 rfl) ?_
      refine zx_ast hx hb hG shM_7 g_5 dX7_breed_36 (fun H locs hG => ?_)
      refine lv_iload_n hx hb dX7_breed_37 rfl (lv_at hl 0 rfl) ?_
      exact zx_iret hx hb hr hlocks rfl hG hf dX7_breed_38
    · have hf := zx_pos c_4 hf
      refine lv_bipush (v := (-2 : Int32)) hx hb dX7_breed_20 (by decide) ?_
      exact zx_iret hx hb hr hlocks rfl hG hf dX7_breed_22
  · have hf := zx_pos c_2 hf
    refine lv_iconst (v := (-1 : Int32)) hx hb dX7_breed_8 (by decide) ?_
    exact zx_iret hx hb hr hlocks rfl hG hf dX7_breed_9

set_option maxHeartbeats 4000000 in
set_option maxRecDepth 100000 in
theorem mX7_door (l : Launch) (D : va_G) (ad : Nat → Nat) (cA : Nat → ClassId) (x1 : Int32) (x2 : Int32) (I : zxI) (r : Int32) (J : zxI) (hf : fX7_door x1 x2 I = some (r, J)) (sz : Nat) : Met l yX7_door wsX7_door { frames := 1, cells := 0, slots := 0, locals := 22 } (va_Pc [.ref (ad 0), .int x1, .int x2] (zxPre D shM ad cA I sz)) (va_Qi (fun (r2 : Int32) (I2 : zxI) => r2 = r ∧ I2 = J) (zxPost D shM ad cA sz) (zxA shM ad sz)) 0 0 (zxA shM ad sz) := by
  refine zx_start (by decide) rfl (Nat.le_of_ble_eq_true rfl) ?_
  intro p e s m args below meth c ls hx hb hr hts hown hlocks hml hG hl
  have hl : lv_has ls 4 [(0, .ref (ad 0)), (1, .int x1), (2, .int x2)] := hl
  have hiX7 : ∀ w ∈ wsX70, w ∈ wsX7_door := fun w h => List.mem_cons_of_mem _ (List.mem_append_right _ h)
  have L1 := hts (Cond.fieldLink RX7 101 "GalleryBirdsModel" "doors" "I") (List.mem_of_getElem? (i := 1) rfl)
  unfold fX7_door at hf
  refine lv_aload_n hx hb dX7_door_0 rfl (lv_at hl 0 rfl) ?_
  refine lv_iload_n hx hb dX7_door_1 rfl (lv_at hl 1 rfl) ?_
  obtain ⟨r_1, I_1, h_1, hf⟩ := zx_b hf
  refine zx_calli (va_runV (As := [.int x1]) (rest := []) ⟨hx, hb, hml, hown, hts⟩ (mX7_isDoor l D ad cA x1 I r_1 I_1 h_1 _) (cwV 1 hts gX7_door_X7_isDoor rfl rfl rfl hd_X7_isDoor ⟨Nat.le_of_ble_eq_true rfl, Nat.le_of_ble_eq_true rfl⟩) (zx_preV hG shM_0 vc_7) rfl rfl hl.1 rfl (lv_room (Nat.le_of_ble_eq_true rfl)) dX7_door_2 ⟨Nat.le_refl _, Nat.le_refl _⟩) hG (fun H locs hG => ?_)
  refine lv_if_ne (tgt := 10) hx hb dX7_door_5 (by decide) (fun c_2 => ?_) (fun c_2 => ?_)
  · have hf := zx_neg c_2 hf
    refine lv_iload_n hx hb dX7_door_10 rfl (lv_at hl 2 rfl) ?_
    refine lv_iconst (v := (0 : Int32)) hx hb dX7_door_11 (by decide) ?_
    refine lv_iconst (v := (1 : Int32)) hx hb dX7_door_12 (by decide) ?_
    obtain ⟨r_3, I_3, h_3, hf⟩ := zx_b hf
    refine zx_calli (va_runS (As := [.int x2, .int (0 : Int32), .int (1 : Int32)]) (rest := []) ⟨hx, hb, hml, hown, hts⟩ (mX7_within l D ad cA x2 (0 : Int32) (1 : Int32) I_1 r_3 I_3 h_3 _) (va_cwS 3 hts gX7_door_X7_within rfl rfl rfl hd_X7_within ⟨Nat.le_of_ble_eq_true rfl, Nat.le_of_ble_eq_true rfl⟩) (zx_preS hG) rfl rfl hl.1 rfl (lv_room (Nat.le_of_ble_eq_true rfl)) dX7_door_13 ⟨Nat.le_refl _, Nat.le_refl _⟩) hG (fun H locs hG => ?_)
    refine lv_if_ne (tgt := 22) hx hb dX7_door_16 (by decide) (fun c_4 => ?_) (fun c_4 => ?_)
    · have hf := zx_neg c_4 hf
      refine lv_aload_n hx hb dX7_door_22 rfl (lv_at hl 0 rfl) ?_
      refine zx_getI hx hb hts hiX7 hown hG shM_0 vc_7 9 (by decide) rfl L1 dX7_door_23 ?_
      refine lv_iload_n hx hb dX7_door_26 rfl (lv_at hl 1 rfl) ?_
      refine lv_ishr hx hb dX7_door_27 ?_
      refine lv_iconst (v := (1 : Int32)) hx hb dX7_door_28 (by decide) ?_
      refine lv_iand hx hb dX7_door_29 ?_
      refine lv_istore_n (lv' := [(3, .int (((I_3 0 9) >>> (x1 &&& 31)) &&& (1 : Int32))), (0, .ref (ad 0)), (1, .int x1), (2, .int x2)]) hx hb dX7_door_30 rfl hl (by decide) rfl (fun ls hl => ?_)
      refine lv_aload_n hx hb dX7_door_31 rfl (lv_at hl 1 rfl) ?_
      refine lv_aload_n hx hb dX7_door_32 rfl (lv_at hl 1 rfl) ?_
      refine zx_getI hx hb hts hiX7 hown hG shM_0 vc_7 9 (by decide) rfl L1 dX7_door_33 ?_
      refine lv_iconst (v := (1 : Int32)) hx hb dX7_door_36 (by decide) ?_
      refine lv_iload_n hx hb dX7_door_37 rfl (lv_at hl 2 rfl) ?_
      refine lv_ishl hx hb dX7_door_38 ?_
      refine lv_iconst (v := (-1 : Int32)) hx hb dX7_door_39 (by decide) ?_
      refine lv_ixor hx hb dX7_door_40 ?_
      refine lv_iand hx hb dX7_door_41 ?_
      refine lv_iload_n hx hb dX7_door_42 rfl (lv_at hl 3 rfl) ?_
      refine lv_iload_n hx hb dX7_door_43 rfl (lv_at hl 2 rfl) ?_
      refine lv_ishl hx hb dX7_door_44 ?_
      refine lv_ior hx hb dX7_door_45 ?_
      refine zx_putI hx hb hts hiX7 tyX7 tyX7_ok nmX7 hown hG shM_0 vc_7 9 (by decide) rfl L1 rfl (ty := .int) (tyX7_ok 9 (by decide)) rfl rfl dX7_door_46 (fun H locs hG => ?_)
      refine lv_iload_n hx hb dX7_door_49 rfl (lv_at hl 0 rfl) ?_
      exact zx_iret hx hb hr hlocks rfl hG hf dX7_door_50
    · have hf := zx_pos c_4 hf
      refine lv_bipush (v := (-2 : Int32)) hx hb dX7_door_19 (by decide) ?_
      exact zx_iret hx hb hr hlocks rfl hG hf dX7_door_21
  · have hf := zx_pos c_2 hf
    refine lv_iconst (v := (-1 : Int32)) hx hb dX7_door_8 (by decide) ?_
    exact zx_iret hx hb hr hlocks rfl hG hf dX7_door_9

set_option maxHeartbeats 4000000 in
set_option maxRecDepth 100000 in
theorem mX7_pass (l : Launch) (D : va_G) (ad : Nat → Nat) (cA : Nat → ClassId) (I : zxI) (r : Int32) (J : zxI) (hf : fX7_pass I = some (r, J)) (sz : Nat) : Met l yX7_pass wsX7_pass { frames := 1, cells := 0, slots := 0, locals := 21 } (va_Pc [.ref (ad 0)] (zxPre D shM ad cA I sz)) (va_Qi (fun (r2 : Int32) (I2 : zxI) => r2 = r ∧ I2 = J) (zxPost D shM ad cA sz) (zxA shM ad sz)) 0 0 (zxA shM ad sz) := by
  refine zx_start (by decide) rfl (Nat.le_of_ble_eq_true rfl) ?_
  intro p e s m args below meth c ls hx hb hr hts hown hlocks hml hG hl
  have hl : lv_has ls 5 [(0, .ref (ad 0))] := hl
  have hiX7 : ∀ w ∈ wsX70, w ∈ wsX7_pass := fun w h => List.mem_cons_of_mem _ (List.mem_append_right _ h)
  have L1 := hts (Cond.fieldLink RX7 65 "GalleryBirdsModel" "galleries" "I") (List.mem_of_getElem? (i := 1) rfl)
  have L2 := hts (Cond.fieldLink RX7 25 "GalleryBirdsModel" "foulNow" "[I") (List.mem_of_getElem? (i := 2) rfl)
  have L3 := hts (Cond.fieldLink RX7 101 "GalleryBirdsModel" "doors" "I") (List.mem_of_getElem? (i := 3) rfl)
  unfold fX7_pass at hf
  refine lv_iconst (v := (0 : Int32)) hx hb dX7_pass_0 (by decide) ?_
  refine lv_istore_n (lv' := [(1, .int (0 : Int32)), (0, .ref (ad 0))]) hx hb dX7_pass_1 rfl hl (by decide) rfl (fun ls hl => ?_)
  refine lv_iconst (v := (0 : Int32)) hx hb dX7_pass_2 (by decide) ?_
  refine lv_istore_n (lv' := [(2, .int (0 : Int32)), (1, .int (0 : Int32)), (0, .ref (ad 0))]) hx hb dX7_pass_3 rfl hl (by decide) rfl (fun ls hl => ?_)
  have loop4 : ∀ (n : Nat) (v1 : Int32) (v2 : Int32) (I : zxI) (H : Heap) (locs : List Loc) (ls : Array Slot), fX7_pass_L4 n v1 v2 I = some (r, J) → zxAt D shM ad cA I s sz H locs → lv_has ls 5 [(0, .ref (ad 0)), (1, .int v1), (2, .int v2)] → W p l e (headSpec wsX7_pass { frames := 1, cells := 0, slots := 0, locals := 21 }).room s m args below meth c H locs 0 0 (MQ below (va_Qi (fun (r2 : Int32) (I2 : zxI) => r2 = r ∧ I2 = J) (zxPost D shM ad cA sz) (zxA shM ad sz)) args s 0 0 (zxA shM ad sz)) (F0 m 4 ls []) := by
    intro n
    induction n with
    | zero =>
      intro v1 v2 I H locs ls hf hG hl
      rw [fX7_pass_L4] at hf
      cases hf
    | succ n4 ih4 =>
      intro v1 v2 I H locs ls hf hG hl
      rw [fX7_pass_L4] at hf
      refine lv_iload_n hx hb dX7_pass_4 rfl (lv_at hl 2 rfl) ?_
      refine lv_aload_n hx hb dX7_pass_5 rfl (lv_at hl 0 rfl) ?_
      refine zx_getI hx hb hts hiX7 hown hG shM_0 vc_7 5 (by decide) rfl L1 dX7_pass_6 ?_
      refine lv_iconst (v := (1 : Int32)) hx hb dX7_pass_9 (by decide) ?_
      refine lv_isub hx hb dX7_pass_10 ?_
      refine lv_icmp_ge (tgt := 95) hx hb dX7_pass_11 (by decide) (fun c_1 => ?_) (fun c_1 => ?_)
      · have hf := zx_pos c_1 hf
        refine lv_iload_n hx hb dX7_pass_95 rfl (lv_at hl 1 rfl) ?_
        exact zx_iret hx hb hr hlocks rfl hG hf dX7_pass_96
      · have hf := zx_neg c_1 hf
        refine lv_aload_n hx hb dX7_pass_14 rfl (lv_at hl 0 rfl) ?_
        refine zx_getR (d := 6) hx hb hts hiX7 hown hG shM_0 vc_7 12 (by decide) rfl L2 dX7_pass_15 ?_
        refine lv_iload_n hx hb dX7_pass_18 rfl (lv_at hl 2 rfl) ?_
        obtain ⟨g_2, hf⟩ := zx_in hf
        refine zx_ald hx hb hG shM_6 g_2 dX7_pass_19 ?_
        refine lv_aload_n hx hb dX7_pass_20 rfl (lv_at hl 0 rfl) ?_
        refine zx_getR (d := 6) hx hb hts hiX7 hown hG shM_0 vc_7 12 (by decide) rfl L2 dX7_pass_21 ?_
        refine lv_iload_n hx hb dX7_pass_24 rfl (lv_at hl 2 rfl) ?_
        refine lv_iconst (v := (1 : Int32)) hx hb dX7_pass_25 (by decide) ?_
        refine lv_iadd hx hb dX7_pass_26 ?_
        obtain ⟨g_3, hf⟩ := zx_in hf
        refine zx_ald hx hb hG shM_6 g_3 dX7_pass_27 ?_
        refine lv_isub hx hb dX7_pass_28 ?_
        refine lv_istore_n (lv' := [(3, .int ((I 6 v2.toNatClampNeg) - (I 6 (v2 + (1 : Int32)).toNatClampNeg))), (0, .ref (ad 0)), (1, .int v1), (2, .int v2)]) hx hb dX7_pass_29 rfl hl (by decide) rfl (fun ls hl => ?_)
        refine lv_aload_n hx hb dX7_pass_30 rfl (lv_at hl 1 rfl) ?_
        refine zx_getI hx hb hts hiX7 hown hG shM_0 vc_7 9 (by decide) rfl L3 dX7_pass_31 ?_
        refine lv_iload_n hx hb dX7_pass_34 rfl (lv_at hl 3 rfl) ?_
        obtain ⟨r_4, I_4, h_4, hf⟩ := zx_b hf
        refine zx_calli (va_runS (As := [.int (I 0 9), .int v2]) (rest := []) ⟨hx, hb, hml, hown, hts⟩ (mX7_isOf l D ad cA (I 0 9) v2 I r_4 I_4 h_4 _) (va_cwS 2 hts gX7_pass_X7_isOf rfl rfl rfl hd_X7_isOf ⟨Nat.le_of_ble_eq_true rfl, Nat.le_of_ble_eq_true rfl⟩) (zx_preS hG) rfl rfl hl.1 rfl (lv_room (Nat.le_of_ble_eq_true rfl)) dX7_pass_35 ⟨Nat.le_refl _, Nat.le_refl _⟩) hG (fun H locs hG => ?_)
        refine lv_if_eq (tgt := 89) hx hb dX7_pass_38 (by decide) (fun c_5 => ?_) (fun c_5 => ?_)
        · have hf := zx_pos c_5 hf
          refine lv_iinc (v := (v2 + (1 : Int32))) (lv' := [(2, .int (v2 + (1 : Int32))), (3, .int ((I 6 v2.toNatClampNeg) - (I 6 (v2 + (1 : Int32)).toNatClampNeg))), (0, .ref (ad 0)), (1, .int v1)]) hx hb dX7_pass_89 hl (k := 3) rfl (congrArg (HAdd.hAdd v2) (by decide)) (by decide) rfl (fun ls hl => ?_)
          refine lv_goto (tgt := 4) hx hb dX7_pass_92 (by decide) ?_
          exact ih4 v1 (v2 + (1 : Int32)) I_4 _ _ ls hf hG (lv_sub hl [2, 3, 0] rfl)
        · have hf := zx_neg c_5 hf
          refine lv_iload_n hx hb dX7_pass_41 rfl (lv_at hl 0 rfl) ?_
          refine lv_iconst (v := (1 : Int32)) hx hb dX7_pass_42 (by decide) ?_
          refine lv_icmp_gt (tgt := 51) hx hb dX7_pass_43 (by decide) (fun c_6 => ?_) (fun c_6 => ?_)
          · have hf := zx_pos c_6 hf
            refine lv_iload_n hx hb dX7_pass_51 rfl (lv_at hl 0 rfl) ?_
            refine lv_if_le (tgt := 59) hx hb dX7_pass_52 (by decide) (fun c_7 => ?_) (fun c_7 => ?_)
            · have hf := zx_pos c_7 hf
              refine lv_iconst (v := (-1 : Int32)) hx hb dX7_pass_59 (by decide) ?_
              refine lv_istore (lv' := [(4, .int (-1 : Int32)), (3, .int ((I 6 v2.toNatClampNeg) - (I 6 (v2 + (1 : Int32)).toNatClampNeg))), (0, .ref (ad 0)), (1, .int v1), (2, .int v2)]) hx hb dX7_pass_60 hl (by decide) rfl (fun ls hl => ?_)
              refine lv_aload_n hx hb dX7_pass_62 rfl (lv_at hl 2 rfl) ?_
              refine zx_getR (d := 6) hx hb hts hiX7 hown hG shM_0 vc_7 12 (by decide) rfl L2 dX7_pass_63 ?_
              refine lv_iload_n hx hb dX7_pass_66 rfl (lv_at hl 4 rfl) ?_
              refine lv_dup2_11 hx hb dX7_pass_67 rfl rfl ?_
              refine zx_ald hx hb hG shM_6 g_2 dX7_pass_68 ?_
              refine lv_iload hx hb dX7_pass_69 (lv_at hl 0 rfl) ?_
              refine lv_isub hx hb dX7_pass_71 ?_
              refine zx_ast hx hb hG shM_6 g_2 dX7_pass_72 (fun H locs hG => ?_)
              refine lv_aload_n hx hb dX7_pass_73 rfl (lv_at hl 2 rfl) ?_
              refine zx_getR (d := 6) hx hb hts hiX7 hown hG shM_0 vc_7 12 (by decide) rfl L2 dX7_pass_74 ?_
              refine lv_iload_n hx hb dX7_pass_77 rfl (lv_at hl 4 rfl) ?_
              refine lv_iconst (v := (1 : Int32)) hx hb dX7_pass_78 (by decide) ?_
              refine lv_iadd hx hb dX7_pass_79 ?_
              refine lv_dup2_11 hx hb dX7_pass_80 rfl rfl ?_
              refine zx_ald hx hb hG shM_6 g_3 dX7_pass_81 ?_
              refine lv_iload hx hb dX7_pass_82 (lv_at hl 0 rfl) ?_
              refine lv_iadd hx hb dX7_pass_84 ?_
              refine zx_ast hx hb hG shM_6 g_3 dX7_pass_85 (fun H locs hG => ?_)
              refine lv_iinc (v := (v1 + (1 : Int32))) (lv' := [(1, .int (v1 + (1 : Int32))), (4, .int (-1 : Int32)), (3, .int ((I 6 v2.toNatClampNeg) - (I 6 (v2 + (1 : Int32)).toNatClampNeg))), (0, .ref (ad 0)), (2, .int v2)]) hx hb dX7_pass_86 hl (k := 3) rfl (congrArg (HAdd.hAdd v1) (by decide)) (by decide) rfl (fun ls hl => ?_)
              refine lv_iinc (v := (v2 + (1 : Int32))) (lv' := [(2, .int (v2 + (1 : Int32))), (1, .int (v1 + (1 : Int32))), (4, .int (-1 : Int32)), (3, .int ((I 6 v2.toNatClampNeg) - (I 6 (v2 + (1 : Int32)).toNatClampNeg))), (0, .ref (ad 0))]) hx hb dX7_pass_89 hl (k := 4) rfl (congrArg (HAdd.hAdd v2) (by decide)) (by decide) rfl (fun ls hl => ?_)
              refine lv_goto (tgt := 4) hx hb dX7_pass_92 (by decide) ?_
              exact ih4 (v1 + (1 : Int32)) (v2 + (1 : Int32)) (zxU (zxU I_4 6 v2.toNatClampNeg ((I_4 6 v2.toNatClampNeg) - (-1 : Int32))) 6 (v2 + (1 : Int32)).toNatClampNeg (((zxU I_4 6 v2.toNatClampNeg ((I_4 6 v2.toNatClampNeg) - (-1 : Int32))) 6 (v2 + (1 : Int32)).toNatClampNeg) + (-1 : Int32))) _ _ ls hf hG (lv_sub hl [4, 1, 0] rfl)
            · have hf := zx_neg c_7 hf
              refine lv_iconst (v := (1 : Int32)) hx hb dX7_pass_55 (by decide) ?_
              refine lv_goto (tgt := 60) hx hb dX7_pass_56 (by decide) ?_
              refine lv_istore (lv' := [(4, .int (1 : Int32)), (3, .int ((I 6 v2.toNatClampNeg) - (I 6 (v2 + (1 : Int32)).toNatClampNeg))), (0, .ref (ad 0)), (1, .int v1), (2, .int v2)]) hx hb dX7_pass_60 hl (by decide) rfl (fun ls hl => ?_)
              refine lv_aload_n hx hb dX7_pass_62 rfl (lv_at hl 2 rfl) ?_
              refine zx_getR (d := 6) hx hb hts hiX7 hown hG shM_0 vc_7 12 (by decide) rfl L2 dX7_pass_63 ?_
              refine lv_iload_n hx hb dX7_pass_66 rfl (lv_at hl 4 rfl) ?_
              refine lv_dup2_11 hx hb dX7_pass_67 rfl rfl ?_
              refine zx_ald hx hb hG shM_6 g_2 dX7_pass_68 ?_
              refine lv_iload hx hb dX7_pass_69 (lv_at hl 0 rfl) ?_
              refine lv_isub hx hb dX7_pass_71 ?_
              refine zx_ast hx hb hG shM_6 g_2 dX7_pass_72 (fun H locs hG => ?_)
              refine lv_aload_n hx hb dX7_pass_73 rfl (lv_at hl 2 rfl) ?_
              refine zx_getR (d := 6) hx hb hts hiX7 hown hG shM_0 vc_7 12 (by decide) rfl L2 dX7_pass_74 ?_
              refine lv_iload_n hx hb dX7_pass_77 rfl (lv_at hl 4 rfl) ?_
              refine lv_iconst (v := (1 : Int32)) hx hb dX7_pass_78 (by decide) ?_
              refine lv_iadd hx hb dX7_pass_79 ?_
              refine lv_dup2_11 hx hb dX7_pass_80 rfl rfl ?_
              refine zx_ald hx hb hG shM_6 g_3 dX7_pass_81 ?_
              refine lv_iload hx hb dX7_pass_82 (lv_at hl 0 rfl) ?_
              refine lv_iadd hx hb dX7_pass_84 ?_
              refine zx_ast hx hb hG shM_6 g_3 dX7_pass_85 (fun H locs hG => ?_)
              refine lv_iinc (v := (v1 + (1 : Int32))) (lv' := [(1, .int (v1 + (1 : Int32))), (4, .int (1 : Int32)), (3, .int ((I 6 v2.toNatClampNeg) - (I 6 (v2 + (1 : Int32)).toNatClampNeg))), (0, .ref (ad 0)), (2, .int v2)]) hx hb dX7_pass_86 hl (k := 3) rfl (congrArg (HAdd.hAdd v1) (by decide)) (by decide) rfl (fun ls hl => ?_)
              refine lv_iinc (v := (v2 + (1 : Int32))) (lv' := [(2, .int (v2 + (1 : Int32))), (1, .int (v1 + (1 : Int32))), (4, .int (1 : Int32)), (3, .int ((I 6 v2.toNatClampNeg) - (I 6 (v2 + (1 : Int32)).toNatClampNeg))), (0, .ref (ad 0))]) hx hb dX7_pass_89 hl (k := 4) rfl (congrArg (HAdd.hAdd v2) (by decide)) (by decide) rfl (fun ls hl => ?_)
              refine lv_goto (tgt := 4) hx hb dX7_pass_92 (by decide) ?_
              exact ih4 (v1 + (1 : Int32)) (v2 + (1 : Int32)) (zxU (zxU I_4 6 v2.toNatClampNeg ((I_4 6 v2.toNatClampNeg) - (1 : Int32))) 6 (v2 + (1 : Int32)).toNatClampNeg (((zxU I_4 6 v2.toNatClampNeg ((I_4 6 v2.toNatClampNeg) - (1 : Int32))) 6 (v2 + (1 : Int32)).toNatClampNeg) + (1 : Int32))) _ _ ls hf hG (lv_sub hl [4, 1, 0] rfl)
          · have hf := zx_neg c_6 hf
            refine lv_iload_n hx hb dX7_pass_46 rfl (lv_at hl 0 rfl) ?_
            refine lv_iconst (v := (-1 : Int32)) hx hb dX7_pass_47 (by decide) ?_
            refine lv_icmp_ge (tgt := 89) hx hb dX7_pass_48 (by decide) (fun c_16 => ?_) (fun c_16 => ?_)
            · have hf := zx_pos c_16 hf
              refine lv_iinc (v := (v2 + (1 : Int32))) (lv' := [(2, .int (v2 + (1 : Int32))), (3, .int ((I 6 v2.toNatClampNeg) - (I 6 (v2 + (1 : Int32)).toNatClampNeg))), (0, .ref (ad 0)), (1, .int v1)]) hx hb dX7_pass_89 hl (k := 3) rfl (congrArg (HAdd.hAdd v2) (by decide)) (by decide) rfl (fun ls hl => ?_)
              refine lv_goto (tgt := 4) hx hb dX7_pass_92 (by decide) ?_
              exact ih4 v1 (v2 + (1 : Int32)) I_4 _ _ ls hf hG (lv_sub hl [2, 3, 0] rfl)
            · have hf := zx_neg c_16 hf
              refine lv_iload_n hx hb dX7_pass_51 rfl (lv_at hl 0 rfl) ?_
              refine lv_if_le (tgt := 59) hx hb dX7_pass_52 (by decide) (fun c_17 => ?_) (fun c_17 => ?_)
              · have hf := zx_pos c_17 hf
                refine lv_iconst (v := (-1 : Int32)) hx hb dX7_pass_59 (by decide) ?_
                refine lv_istore (lv' := [(4, .int (-1 : Int32)), (3, .int ((I 6 v2.toNatClampNeg) - (I 6 (v2 + (1 : Int32)).toNatClampNeg))), (0, .ref (ad 0)), (1, .int v1), (2, .int v2)]) hx hb dX7_pass_60 hl (by decide) rfl (fun ls hl => ?_)
                refine lv_aload_n hx hb dX7_pass_62 rfl (lv_at hl 2 rfl) ?_
                refine zx_getR (d := 6) hx hb hts hiX7 hown hG shM_0 vc_7 12 (by decide) rfl L2 dX7_pass_63 ?_
                refine lv_iload_n hx hb dX7_pass_66 rfl (lv_at hl 4 rfl) ?_
                refine lv_dup2_11 hx hb dX7_pass_67 rfl rfl ?_
                refine zx_ald hx hb hG shM_6 g_2 dX7_pass_68 ?_
                refine lv_iload hx hb dX7_pass_69 (lv_at hl 0 rfl) ?_
                refine lv_isub hx hb dX7_pass_71 ?_
                refine zx_ast hx hb hG shM_6 g_2 dX7_pass_72 (fun H locs hG => ?_)
                refine lv_aload_n hx hb dX7_pass_73 rfl (lv_at hl 2 rfl) ?_
                refine zx_getR (d := 6) hx hb hts hiX7 hown hG shM_0 vc_7 12 (by decide) rfl L2 dX7_pass_74 ?_
                refine lv_iload_n hx hb dX7_pass_77 rfl (lv_at hl 4 rfl) ?_
                refine lv_iconst (v := (1 : Int32)) hx hb dX7_pass_78 (by decide) ?_
                refine lv_iadd hx hb dX7_pass_79 ?_
                refine lv_dup2_11 hx hb dX7_pass_80 rfl rfl ?_
                refine zx_ald hx hb hG shM_6 g_3 dX7_pass_81 ?_
                refine lv_iload hx hb dX7_pass_82 (lv_at hl 0 rfl) ?_
                refine lv_iadd hx hb dX7_pass_84 ?_
                refine zx_ast hx hb hG shM_6 g_3 dX7_pass_85 (fun H locs hG => ?_)
                refine lv_iinc (v := (v1 + (1 : Int32))) (lv' := [(1, .int (v1 + (1 : Int32))), (4, .int (-1 : Int32)), (3, .int ((I 6 v2.toNatClampNeg) - (I 6 (v2 + (1 : Int32)).toNatClampNeg))), (0, .ref (ad 0)), (2, .int v2)]) hx hb dX7_pass_86 hl (k := 3) rfl (congrArg (HAdd.hAdd v1) (by decide)) (by decide) rfl (fun ls hl => ?_)
                refine lv_iinc (v := (v2 + (1 : Int32))) (lv' := [(2, .int (v2 + (1 : Int32))), (1, .int (v1 + (1 : Int32))), (4, .int (-1 : Int32)), (3, .int ((I 6 v2.toNatClampNeg) - (I 6 (v2 + (1 : Int32)).toNatClampNeg))), (0, .ref (ad 0))]) hx hb dX7_pass_89 hl (k := 4) rfl (congrArg (HAdd.hAdd v2) (by decide)) (by decide) rfl (fun ls hl => ?_)
                refine lv_goto (tgt := 4) hx hb dX7_pass_92 (by decide) ?_
                exact ih4 (v1 + (1 : Int32)) (v2 + (1 : Int32)) (zxU (zxU I_4 6 v2.toNatClampNeg ((I_4 6 v2.toNatClampNeg) - (-1 : Int32))) 6 (v2 + (1 : Int32)).toNatClampNeg (((zxU I_4 6 v2.toNatClampNeg ((I_4 6 v2.toNatClampNeg) - (-1 : Int32))) 6 (v2 + (1 : Int32)).toNatClampNeg) + (-1 : Int32))) _ _ ls hf hG (lv_sub hl [4, 1, 0] rfl)
              · have hf := zx_neg c_17 hf
                refine lv_iconst (v := (1 : Int32)) hx hb dX7_pass_55 (by decide) ?_
                refine lv_goto (tgt := 60) hx hb dX7_pass_56 (by decide) ?_
                refine lv_istore (lv' := [(4, .int (1 : Int32)), (3, .int ((I 6 v2.toNatClampNeg) - (I 6 (v2 + (1 : Int32)).toNatClampNeg))), (0, .ref (ad 0)), (1, .int v1), (2, .int v2)]) hx hb dX7_pass_60 hl (by decide) rfl (fun ls hl => ?_)
                refine lv_aload_n hx hb dX7_pass_62 rfl (lv_at hl 2 rfl) ?_
                refine zx_getR (d := 6) hx hb hts hiX7 hown hG shM_0 vc_7 12 (by decide) rfl L2 dX7_pass_63 ?_
                refine lv_iload_n hx hb dX7_pass_66 rfl (lv_at hl 4 rfl) ?_
                refine lv_dup2_11 hx hb dX7_pass_67 rfl rfl ?_
                refine zx_ald hx hb hG shM_6 g_2 dX7_pass_68 ?_
                refine lv_iload hx hb dX7_pass_69 (lv_at hl 0 rfl) ?_
                refine lv_isub hx hb dX7_pass_71 ?_
                refine zx_ast hx hb hG shM_6 g_2 dX7_pass_72 (fun H locs hG => ?_)
                refine lv_aload_n hx hb dX7_pass_73 rfl (lv_at hl 2 rfl) ?_
                refine zx_getR (d := 6) hx hb hts hiX7 hown hG shM_0 vc_7 12 (by decide) rfl L2 dX7_pass_74 ?_
                refine lv_iload_n hx hb dX7_pass_77 rfl (lv_at hl 4 rfl) ?_
                refine lv_iconst (v := (1 : Int32)) hx hb dX7_pass_78 (by decide) ?_
                refine lv_iadd hx hb dX7_pass_79 ?_
                refine lv_dup2_11 hx hb dX7_pass_80 rfl rfl ?_
                refine zx_ald hx hb hG shM_6 g_3 dX7_pass_81 ?_
                refine lv_iload hx hb dX7_pass_82 (lv_at hl 0 rfl) ?_
                refine lv_iadd hx hb dX7_pass_84 ?_
                refine zx_ast hx hb hG shM_6 g_3 dX7_pass_85 (fun H locs hG => ?_)
                refine lv_iinc (v := (v1 + (1 : Int32))) (lv' := [(1, .int (v1 + (1 : Int32))), (4, .int (1 : Int32)), (3, .int ((I 6 v2.toNatClampNeg) - (I 6 (v2 + (1 : Int32)).toNatClampNeg))), (0, .ref (ad 0)), (2, .int v2)]) hx hb dX7_pass_86 hl (k := 3) rfl (congrArg (HAdd.hAdd v1) (by decide)) (by decide) rfl (fun ls hl => ?_)
                refine lv_iinc (v := (v2 + (1 : Int32))) (lv' := [(2, .int (v2 + (1 : Int32))), (1, .int (v1 + (1 : Int32))), (4, .int (1 : Int32)), (3, .int ((I 6 v2.toNatClampNeg) - (I 6 (v2 + (1 : Int32)).toNatClampNeg))), (0, .ref (ad 0))]) hx hb dX7_pass_89 hl (k := 4) rfl (congrArg (HAdd.hAdd v2) (by decide)) (by decide) rfl (fun ls hl => ?_)
                refine lv_goto (tgt := 4) hx hb dX7_pass_92 (by decide) ?_
                exact ih4 (v1 + (1 : Int32)) (v2 + (1 : Int32)) (zxU (zxU I_4 6 v2.toNatClampNeg ((I_4 6 v2.toNatClampNeg) - (1 : Int32))) 6 (v2 + (1 : Int32)).toNatClampNeg (((zxU I_4 6 v2.toNatClampNeg ((I_4 6 v2.toNatClampNeg) - (1 : Int32))) 6 (v2 + (1 : Int32)).toNatClampNeg) + (1 : Int32))) _ _ ls hf hG (lv_sub hl [4, 1, 0] rfl)
  exact loop4 _ (0 : Int32) (0 : Int32) I _ _ ls hf hG (lv_sub hl [2, 1, 0] rfl)

set_option maxHeartbeats 4000000 in
set_option maxRecDepth 100000 in
theorem mX7_drop (l : Launch) (D : va_G) (ad : Nat → Nat) (cA : Nat → ClassId) (I : zxI) (r : Int32) (J : zxI) (hf : fX7_drop I = some (r, J)) (sz : Nat) : Met l yX7_drop wsX7_drop { frames := 2, cells := 0, slots := 0, locals := 42 } (va_Pc [.ref (ad 0)] (zxPre D shM ad cA I sz)) (va_Qi (fun (r2 : Int32) (I2 : zxI) => r2 = r ∧ I2 = J) (zxPost D shM ad cA sz) (zxA shM ad sz)) 0 0 (zxA shM ad sz) := by
  refine zx_start (by decide) rfl (Nat.le_of_ble_eq_true rfl) ?_
  intro p e s m args below meth c ls hx hb hr hts hown hlocks hml hG hl
  have hl : lv_has ls 3 [(0, .ref (ad 0))] := hl
  have hiX7 : ∀ w ∈ wsX70, w ∈ wsX7_drop := fun w h => List.mem_cons_of_mem _ (List.mem_append_right _ h)
  have L1 := hts (Cond.fieldLink RX7 65 "GalleryBirdsModel" "galleries" "I") (List.mem_of_getElem? (i := 1) rfl)
  have L2 := hts (Cond.fieldLink RX7 107 "GalleryBirdsModel" "down" "I") (List.mem_of_getElem? (i := 2) rfl)
  have L3 := hts (Cond.fieldLink RX7 25 "GalleryBirdsModel" "foulNow" "[I") (List.mem_of_getElem? (i := 3) rfl)
  unfold fX7_drop at hf
  refine lv_iconst (v := (0 : Int32)) hx hb dX7_drop_0 (by decide) ?_
  refine lv_istore_n (lv' := [(1, .int (0 : Int32)), (0, .ref (ad 0))]) hx hb dX7_drop_1 rfl hl (by decide) rfl (fun ls hl => ?_)
  refine lv_iconst (v := (0 : Int32)) hx hb dX7_drop_2 (by decide) ?_
  refine lv_istore_n (lv' := [(2, .int (0 : Int32)), (1, .int (0 : Int32)), (0, .ref (ad 0))]) hx hb dX7_drop_3 rfl hl (by decide) rfl (fun ls hl => ?_)
  have loop4 : ∀ (n : Nat) (v1 : Int32) (v2 : Int32) (I : zxI) (H : Heap) (locs : List Loc) (ls : Array Slot), fX7_drop_L4 n v1 v2 I = some (r, J) → zxAt D shM ad cA I s sz H locs → lv_has ls 3 [(0, .ref (ad 0)), (1, .int v1), (2, .int v2)] → W p l e (headSpec wsX7_drop { frames := 2, cells := 0, slots := 0, locals := 42 }).room s m args below meth c H locs 0 0 (MQ below (va_Qi (fun (r2 : Int32) (I2 : zxI) => r2 = r ∧ I2 = J) (zxPost D shM ad cA sz) (zxA shM ad sz)) args s 0 0 (zxA shM ad sz)) (F0 m 4 ls []) := by
    intro n
    induction n with
    | zero =>
      intro v1 v2 I H locs ls hf hG hl
      rw [fX7_drop_L4] at hf
      cases hf
    | succ n4 ih4 =>
      intro v1 v2 I H locs ls hf hG hl
      rw [fX7_drop_L4] at hf
      refine lv_iload_n hx hb dX7_drop_4 rfl (lv_at hl 2 rfl) ?_
      refine lv_aload_n hx hb dX7_drop_5 rfl (lv_at hl 0 rfl) ?_
      refine zx_getI hx hb hts hiX7 hown hG shM_0 vc_7 5 (by decide) rfl L1 dX7_drop_6 ?_
      refine lv_icmp_ge (tgt := 53) hx hb dX7_drop_9 (by decide) (fun c_1 => ?_) (fun c_1 => ?_)
      · have hf := zx_pos c_1 hf
        refine lv_aload_n hx hb dX7_drop_53 rfl (lv_at hl 0 rfl) ?_
        refine lv_dup hx hb dX7_drop_54 rfl ?_
        refine zx_getI hx hb hts hiX7 hown hG shM_0 vc_7 8 (by decide) rfl L2 dX7_drop_55 ?_
        refine lv_iload_n hx hb dX7_drop_58 rfl (lv_at hl 1 rfl) ?_
        refine lv_ior hx hb dX7_drop_59 ?_
        refine zx_putI hx hb hts hiX7 tyX7 tyX7_ok nmX7 hown hG shM_0 vc_7 8 (by decide) rfl L2 rfl (ty := .int) (tyX7_ok 8 (by decide)) rfl rfl dX7_drop_60 (fun H locs hG => ?_)
        refine lv_iload_n hx hb dX7_drop_63 rfl (lv_at hl 1 rfl) ?_
        exact zx_iret hx hb hr hlocks rfl hG hf dX7_drop_64
      · have hf := zx_neg c_1 hf
        refine lv_iload_n hx hb dX7_drop_12 rfl (lv_at hl 1 rfl) ?_
        refine lv_aload_n hx hb dX7_drop_13 rfl (lv_at hl 0 rfl) ?_
        refine zx_getI hx hb hts hiX7 hown hG shM_0 vc_7 8 (by decide) rfl L2 dX7_drop_14 ?_
        refine lv_iload_n hx hb dX7_drop_17 rfl (lv_at hl 2 rfl) ?_
        obtain ⟨r_2, I_2, h_2, hf⟩ := zx_b hf
        refine zx_calli (va_runS (As := [.int (I 0 8), .int v2]) (rest := [.int v1]) ⟨hx, hb, hml, hown, hts⟩ (mX7_isOf l D ad cA (I 0 8) v2 I r_2 I_2 h_2 _) (va_cwS 2 hts gX7_drop_X7_isOf rfl rfl rfl hd_X7_isOf ⟨Nat.le_of_ble_eq_true rfl, Nat.le_of_ble_eq_true rfl⟩) (zx_preS hG) rfl rfl hl.1 rfl (lv_room (Nat.le_of_ble_eq_true rfl)) dX7_drop_18 ⟨Nat.le_refl _, Nat.le_refl _⟩) hG (fun H locs hG => ?_)
        refine lv_if_ne (tgt := 44) hx hb dX7_drop_21 (by decide) (fun c_3 => ?_) (fun c_3 => ?_)
        · have hf := zx_neg c_3 hf
          refine lv_iconst (v := (0 : Int32)) hx hb dX7_drop_44 (by decide) ?_
          refine lv_ior hx hb dX7_drop_45 ?_
          refine lv_istore_n (lv' := [(1, .int (v1 ||| (0 : Int32))), (0, .ref (ad 0)), (2, .int v2)]) hx hb dX7_drop_46 rfl hl (by decide) rfl (fun ls hl => ?_)
          refine lv_iinc (v := (v2 + (1 : Int32))) (lv' := [(2, .int (v2 + (1 : Int32))), (1, .int (v1 ||| (0 : Int32))), (0, .ref (ad 0))]) hx hb dX7_drop_47 hl (k := 2) rfl (congrArg (HAdd.hAdd v2) (by decide)) (by decide) rfl (fun ls hl => ?_)
          refine lv_goto (tgt := 4) hx hb dX7_drop_50 (by decide) ?_
          exact ih4 (v1 ||| (0 : Int32)) (v2 + (1 : Int32)) I_2 _ _ ls hf hG (lv_sub hl [2, 1, 0] rfl)
        · have hf := zx_pos c_3 hf
          refine lv_aload_n hx hb dX7_drop_24 rfl (lv_at hl 0 rfl) ?_
          refine zx_getR (d := 6) hx hb hts hiX7 hown hG shM_0 vc_7 12 (by decide) rfl L3 dX7_drop_25 ?_
          refine lv_iload_n hx hb dX7_drop_28 rfl (lv_at hl 2 rfl) ?_
          obtain ⟨g_4, hf⟩ := zx_in hf
          refine zx_ald hx hb hG shM_6 g_4 dX7_drop_29 ?_
          refine lv_aload_n hx hb dX7_drop_30 rfl (lv_at hl 0 rfl) ?_
          refine lv_iload_n hx hb dX7_drop_31 rfl (lv_at hl 2 rfl) ?_
          obtain ⟨r_5, I_5, h_5, hf⟩ := zx_b hf
          refine zx_calli (va_runV (As := [.int v2]) (rest := [.int (I_2 6 v2.toNatClampNeg), .int v1]) ⟨hx, hb, hml, hown, hts⟩ (mX7_bearsOf l D ad cA v2 I_2 r_5 I_5 h_5 _) (cwV 1 hts gX7_drop_X7_bearsOf rfl rfl rfl hd_X7_bearsOf ⟨Nat.le_of_ble_eq_true rfl, Nat.le_of_ble_eq_true rfl⟩) (zx_preV hG shM_0 vc_7) rfl rfl hl.1 rfl (lv_room (Nat.le_of_ble_eq_true rfl)) dX7_drop_32 ⟨Nat.le_refl _, Nat.le_refl _⟩) hG (fun H locs hG => ?_)
          refine lv_icmp_le (tgt := 44) hx hb dX7_drop_35 (by decide) (fun c_6 => ?_) (fun c_6 => ?_)
          · have hf := zx_pos c_6 hf
            refine lv_iconst (v := (0 : Int32)) hx hb dX7_drop_44 (by decide) ?_
            refine lv_ior hx hb dX7_drop_45 ?_
            refine lv_istore_n (lv' := [(1, .int (v1 ||| (0 : Int32))), (0, .ref (ad 0)), (2, .int v2)]) hx hb dX7_drop_46 rfl hl (by decide) rfl (fun ls hl => ?_)
            refine lv_iinc (v := (v2 + (1 : Int32))) (lv' := [(2, .int (v2 + (1 : Int32))), (1, .int (v1 ||| (0 : Int32))), (0, .ref (ad 0))]) hx hb dX7_drop_47 hl (k := 2) rfl (congrArg (HAdd.hAdd v2) (by decide)) (by decide) rfl (fun ls hl => ?_)
            refine lv_goto (tgt := 4) hx hb dX7_drop_50 (by decide) ?_
            exact ih4 (v1 ||| (0 : Int32)) (v2 + (1 : Int32)) I_5 _ _ ls hf hG (lv_sub hl [2, 1, 0] rfl)
          · have hf := zx_neg c_6 hf
            refine lv_iconst (v := (1 : Int32)) hx hb dX7_drop_38 (by decide) ?_
            refine lv_iload_n hx hb dX7_drop_39 rfl (lv_at hl 2 rfl) ?_
            refine lv_ishl hx hb dX7_drop_40 ?_
            refine lv_goto (tgt := 45) hx hb dX7_drop_41 (by decide) ?_
            refine lv_ior hx hb dX7_drop_45 ?_
            refine lv_istore_n (lv' := [(1, .int (v1 ||| ((1 : Int32) <<< (v2 &&& 31)))), (0, .ref (ad 0)), (2, .int v2)]) hx hb dX7_drop_46 rfl hl (by decide) rfl (fun ls hl => ?_)
            refine lv_iinc (v := (v2 + (1 : Int32))) (lv' := [(2, .int (v2 + (1 : Int32))), (1, .int (v1 ||| ((1 : Int32) <<< (v2 &&& 31)))), (0, .ref (ad 0))]) hx hb dX7_drop_47 hl (k := 2) rfl (congrArg (HAdd.hAdd v2) (by decide)) (by decide) rfl (fun ls hl => ?_)
            refine lv_goto (tgt := 4) hx hb dX7_drop_50 (by decide) ?_
            exact ih4 (v1 ||| ((1 : Int32) <<< (v2 &&& 31))) (v2 + (1 : Int32)) I_5 _ _ ls hf hG (lv_sub hl [2, 1, 0] rfl)
  exact loop4 _ (0 : Int32) (0 : Int32) I _ _ ls hf hG (lv_sub hl [2, 1, 0] rfl)

set_option maxHeartbeats 4000000 in
set_option maxRecDepth 100000 in
theorem mX7_sayIn (l : Launch) (D : va_G) (ad : Nat → Nat) (cA : Nat → ClassId) (x1 : Int32) (x2 : Int32) (I : zxI) (J : zxI) (hf : fX7_sayIn x1 x2 I = some J) (sz : Nat) : Met l yX7_sayIn wsX7_sayIn { frames := 0, cells := 0, slots := 0, locals := 0 } (va_Pc [.ref (ad 0), .int x1, .int x2] (zxPre D shM ad cA I sz)) (va_Qv (fun (I2 : zxI) => I2 = J) (zxPost D shM ad cA sz) (zxA shM ad sz)) 0 0 (zxA shM ad sz) := by
  refine zx_start (by decide) rfl (Nat.le_of_ble_eq_true rfl) ?_
  intro p e s m args below meth c ls hx hb hr hts hown hlocks hml hG hl
  have hl : lv_has ls 4 [(0, .ref (ad 0)), (1, .int x1), (2, .int x2)] := hl
  have hiX7 : ∀ w ∈ wsX70, w ∈ wsX7_sayIn := fun w h => List.mem_cons_of_mem _ (List.mem_append_right _ h)
  have L1 := hts (Cond.fieldLink RX7 25 "GalleryBirdsModel" "foulNow" "[I") (List.mem_of_getElem? (i := 1) rfl)
  have L2 := hts (Cond.fieldLink RX7 19 "GalleryBirdsModel" "badOf" "[I") (List.mem_of_getElem? (i := 2) rfl)
  unfold fX7_sayIn at hf
  refine lv_aload_n hx hb dX7_sayIn_0 rfl (lv_at hl 0 rfl) ?_
  refine zx_getR (d := 6) hx hb hts hiX7 hown hG shM_0 vc_7 12 (by decide) rfl L1 dX7_sayIn_1 ?_
  refine lv_iload_n hx hb dX7_sayIn_4 rfl (lv_at hl 1 rfl) ?_
  obtain ⟨g_1, hf⟩ := zx_in hf
  refine zx_ald hx hb hG shM_6 g_1 dX7_sayIn_5 ?_
  refine lv_aload_n hx hb dX7_sayIn_6 rfl (lv_at hl 0 rfl) ?_
  refine zx_getR (d := 4) hx hb hts hiX7 hown hG shM_0 vc_7 10 (by decide) rfl L2 dX7_sayIn_7 ?_
  refine lv_iload_n hx hb dX7_sayIn_10 rfl (lv_at hl 2 rfl) ?_
  obtain ⟨g_2, hf⟩ := zx_in hf
  refine zx_ald hx hb hG shM_4 g_2 dX7_sayIn_11 ?_
  refine lv_iadd hx hb dX7_sayIn_12 ?_
  refine lv_iconst (v := (4 : Int32)) hx hb dX7_sayIn_13 (by decide) ?_
  refine lv_isub hx hb dX7_sayIn_14 ?_
  refine lv_istore_n (lv' := [(3, .int (((I 6 x1.toNatClampNeg) + (I 4 x2.toNatClampNeg)) - (4 : Int32))), (0, .ref (ad 0)), (1, .int x1), (2, .int x2)]) hx hb dX7_sayIn_15 rfl hl (by decide) rfl (fun ls hl => ?_)
  refine lv_aload_n hx hb dX7_sayIn_16 rfl (lv_at hl 1 rfl) ?_
  refine zx_getR (d := 6) hx hb hts hiX7 hown hG shM_0 vc_7 12 (by decide) rfl L1 dX7_sayIn_17 ?_
  refine lv_iload_n hx hb dX7_sayIn_20 rfl (lv_at hl 2 rfl) ?_
  refine lv_iload_n hx hb dX7_sayIn_21 rfl (lv_at hl 0 rfl) ?_
  refine lv_if_ge (tgt := 29) hx hb dX7_sayIn_22 (by decide) (fun c_3 => ?_) (fun c_3 => ?_)
  · have hf := zx_pos c_3 hf
    refine lv_iload_n hx hb dX7_sayIn_29 rfl (lv_at hl 0 rfl) ?_
    refine lv_bipush (v := (40 : Int32)) hx hb dX7_sayIn_30 (by decide) ?_
    refine lv_icmp_le (tgt := 40) hx hb dX7_sayIn_32 (by decide) (fun c_4 => ?_) (fun c_4 => ?_)
    · have hf := zx_pos c_4 hf
      refine lv_iload_n hx hb dX7_sayIn_40 rfl (lv_at hl 0 rfl) ?_
      refine zx_ast hx hb hG shM_6 g_1 dX7_sayIn_41 (fun H locs hG => ?_)
      exact zx_vret hx hb hr hlocks hG hf dX7_sayIn_42
    · have hf := zx_neg c_4 hf
      refine lv_bipush (v := (40 : Int32)) hx hb dX7_sayIn_35 (by decide) ?_
      refine lv_goto (tgt := 41) hx hb dX7_sayIn_37 (by decide) ?_
      refine zx_ast hx hb hG shM_6 g_1 dX7_sayIn_41 (fun H locs hG => ?_)
      exact zx_vret hx hb hr hlocks hG hf dX7_sayIn_42
  · have hf := zx_neg c_3 hf
    refine lv_iconst (v := (0 : Int32)) hx hb dX7_sayIn_25 (by decide) ?_
    refine lv_goto (tgt := 41) hx hb dX7_sayIn_26 (by decide) ?_
    refine zx_ast hx hb hG shM_6 g_1 dX7_sayIn_41 (fun H locs hG => ?_)
    exact zx_vret hx hb hr hlocks hG hf dX7_sayIn_42

set_option maxHeartbeats 4000000 in
set_option maxRecDepth 100000 in
theorem mX7_breathe (l : Launch) (D : va_G) (ad : Nat → Nat) (cA : Nat → ClassId) (x1 : Int32) (x2 : Int32) (I : zxI) (r : Int32) (J : zxI) (hf : fX7_breathe x1 x2 I = some (r, J)) (sz : Nat) : Met l yX7_breathe wsX7_breathe { frames := 3, cells := 0, slots := 0, locals := 64 } (va_Pc [.ref (ad 0), .int x1, .int x2] (zxPre D shM ad cA I sz)) (va_Qi (fun (r2 : Int32) (I2 : zxI) => r2 = r ∧ I2 = J) (zxPost D shM ad cA sz) (zxA shM ad sz)) 0 0 (zxA shM ad sz) := by
  refine zx_start (by decide) rfl (Nat.le_of_ble_eq_true rfl) ?_
  intro p e s m args below meth c ls hx hb hr hts hown hlocks hml hG hl
  have hl : lv_has ls 3 [(0, .ref (ad 0)), (1, .int x1), (2, .int x2)] := hl
  unfold fX7_breathe at hf
  refine lv_aload_n hx hb dX7_breathe_0 rfl (lv_at hl 0 rfl) ?_
  refine lv_iload_n hx hb dX7_breathe_1 rfl (lv_at hl 1 rfl) ?_
  refine lv_iload_n hx hb dX7_breathe_2 rfl (lv_at hl 2 rfl) ?_
  obtain ⟨I_1, h_1, hf⟩ := zx_v hf
  refine zx_callv (va_runV (As := [.int x1, .int x2]) (rest := []) ⟨hx, hb, hml, hown, hts⟩ (mX7_sayIn l D ad cA x1 x2 I I_1 h_1 _) (cwV 2 hts gX7_breathe_X7_sayIn rfl rfl rfl hd_X7_sayIn ⟨Nat.le_of_ble_eq_true rfl, Nat.le_of_ble_eq_true rfl⟩) (zx_preV hG shM_0 vc_7) rfl rfl hl.1 rfl (lv_room (Nat.le_of_ble_eq_true rfl)) dX7_breathe_3 ⟨Nat.le_refl _, Nat.le_refl _⟩) hG (fun H locs hG => ?_)
  refine lv_aload_n hx hb dX7_breathe_6 rfl (lv_at hl 0 rfl) ?_
  obtain ⟨r_2, I_2, h_2, hf⟩ := zx_b hf
  refine zx_calli (va_runV (As := []) (rest := []) ⟨hx, hb, hml, hown, hts⟩ (mX7_pass l D ad cA I_1 r_2 I_2 h_2 _) (cwV 0 hts gX7_breathe_X7_pass rfl rfl rfl hd_X7_pass ⟨Nat.le_of_ble_eq_true rfl, Nat.le_of_ble_eq_true rfl⟩) (zx_preV hG shM_0 vc_7) rfl rfl hl.1 rfl (lv_room (Nat.le_of_ble_eq_true rfl)) dX7_breathe_7 ⟨Nat.le_refl _, Nat.le_refl _⟩) hG (fun H locs hG => ?_)
  refine lv_pop hx hb dX7_breathe_10 rfl ?_
  refine lv_aload_n hx hb dX7_breathe_11 rfl (lv_at hl 0 rfl) ?_
  obtain ⟨r_3, I_3, h_3, hf⟩ := zx_b hf
  refine zx_calli (va_runV (As := []) (rest := []) ⟨hx, hb, hml, hown, hts⟩ (mX7_drop l D ad cA I_2 r_3 I_3 h_3 _) (cwV 0 hts gX7_breathe_X7_drop rfl rfl rfl hd_X7_drop ⟨Nat.le_of_ble_eq_true rfl, Nat.le_of_ble_eq_true rfl⟩) (zx_preV hG shM_0 vc_7) rfl rfl hl.1 rfl (lv_room (Nat.le_of_ble_eq_true rfl)) dX7_breathe_12 ⟨Nat.le_refl _, Nat.le_refl _⟩) hG (fun H locs hG => ?_)
  exact zx_iret hx hb hr hlocks rfl hG hf dX7_breathe_15

set_option maxHeartbeats 4000000 in
set_option maxRecDepth 100000 in
theorem mX7_say (l : Launch) (D : va_G) (ad : Nat → Nat) (cA : Nat → ClassId) (x1 : Int32) (x2 : Int32) (I : zxI) (r : Int32) (J : zxI) (hf : fX7_say x1 x2 I = some (r, J)) (sz : Nat) : Met l yX7_say wsX7_say { frames := 4, cells := 0, slots := 0, locals := 86 } (va_Pc [.ref (ad 0), .int x1, .int x2] (zxPre D shM ad cA I sz)) (va_Qi (fun (r2 : Int32) (I2 : zxI) => r2 = r ∧ I2 = J) (zxPost D shM ad cA sz) (zxA shM ad sz)) 0 0 (zxA shM ad sz) := by
  refine zx_start (by decide) rfl (Nat.le_of_ble_eq_true rfl) ?_
  intro p e s m args below meth c ls hx hb hr hts hown hlocks hml hG hl
  have hl : lv_has ls 3 [(0, .ref (ad 0)), (1, .int x1), (2, .int x2)] := hl
  have hiX7 : ∀ w ∈ wsX70, w ∈ wsX7_say := fun w h => List.mem_cons_of_mem _ (List.mem_append_right _ h)
  have L1 := hts (Cond.fieldLink RX7 104 "GalleryBirdsModel" "breaths" "I") (List.mem_of_getElem? (i := 1) rfl)
  unfold fX7_say at hf
  refine lv_aload_n hx hb dX7_say_0 rfl (lv_at hl 0 rfl) ?_
  refine lv_iload_n hx hb dX7_say_1 rfl (lv_at hl 1 rfl) ?_
  obtain ⟨r_1, I_1, h_1, hf⟩ := zx_b hf
  refine zx_calli (va_runV (As := [.int x1]) (rest := []) ⟨hx, hb, hml, hown, hts⟩ (mX7_isGallery l D ad cA x1 I r_1 I_1 h_1 _) (cwV 1 hts gX7_say_X7_isGallery rfl rfl rfl hd_X7_isGallery ⟨Nat.le_of_ble_eq_true rfl, Nat.le_of_ble_eq_true rfl⟩) (zx_preV hG shM_0 vc_7) rfl rfl hl.1 rfl (lv_room (Nat.le_of_ble_eq_true rfl)) dX7_say_2 ⟨Nat.le_refl _, Nat.le_refl _⟩) hG (fun H locs hG => ?_)
  refine lv_if_eq (tgt := 16) hx hb dX7_say_5 (by decide) (fun c_2 => ?_) (fun c_2 => ?_)
  · have hf := zx_pos c_2 hf
    refine lv_iconst (v := (-1 : Int32)) hx hb dX7_say_16 (by decide) ?_
    exact zx_iret hx hb hr hlocks rfl hG hf dX7_say_17
  · have hf := zx_neg c_2 hf
    refine lv_aload_n hx hb dX7_say_8 rfl (lv_at hl 0 rfl) ?_
    refine lv_iload_n hx hb dX7_say_9 rfl (lv_at hl 2 rfl) ?_
    obtain ⟨r_3, I_3, h_3, hf⟩ := zx_b hf
    refine zx_calli (va_runV (As := [.int x2]) (rest := []) ⟨hx, hb, hml, hown, hts⟩ (mX7_isWord l D ad cA x2 I_1 r_3 I_3 h_3 _) (cwV 1 hts gX7_say_X7_isWord rfl rfl rfl hd_X7_isWord ⟨Nat.le_of_ble_eq_true rfl, Nat.le_of_ble_eq_true rfl⟩) (zx_preV hG shM_0 vc_7) rfl rfl hl.1 rfl (lv_room (Nat.le_of_ble_eq_true rfl)) dX7_say_10 ⟨Nat.le_refl _, Nat.le_refl _⟩) hG (fun H locs hG => ?_)
    refine lv_if_ne (tgt := 18) hx hb dX7_say_13 (by decide) (fun c_4 => ?_) (fun c_4 => ?_)
    · have hf := zx_neg c_4 hf
      refine lv_aload_n hx hb dX7_say_18 rfl (lv_at hl 0 rfl) ?_
      refine lv_dup hx hb dX7_say_19 rfl ?_
      refine zx_getI hx hb hts hiX7 hown hG shM_0 vc_7 7 (by decide) rfl L1 dX7_say_20 ?_
      refine lv_iconst (v := (1 : Int32)) hx hb dX7_say_23 (by decide) ?_
      refine lv_iadd hx hb dX7_say_24 ?_
      refine zx_putI hx hb hts hiX7 tyX7 tyX7_ok nmX7 hown hG shM_0 vc_7 7 (by decide) rfl L1 rfl (ty := .int) (tyX7_ok 7 (by decide)) rfl rfl dX7_say_25 (fun H locs hG => ?_)
      refine lv_aload_n hx hb dX7_say_28 rfl (lv_at hl 0 rfl) ?_
      refine lv_iload_n hx hb dX7_say_29 rfl (lv_at hl 1 rfl) ?_
      refine lv_iload_n hx hb dX7_say_30 rfl (lv_at hl 2 rfl) ?_
      obtain ⟨r_5, I_5, h_5, hf⟩ := zx_b hf
      refine zx_calli (va_runV (As := [.int x1, .int x2]) (rest := []) ⟨hx, hb, hml, hown, hts⟩ (mX7_breathe l D ad cA x1 x2 (zxU I_3 0 7 ((I_3 0 7) + (1 : Int32))) r_5 I_5 h_5 _) (cwV 2 hts gX7_say_X7_breathe rfl rfl rfl hd_X7_breathe ⟨Nat.le_of_ble_eq_true rfl, Nat.le_of_ble_eq_true rfl⟩) (zx_preV hG shM_0 vc_7) rfl rfl hl.1 rfl (lv_room (Nat.le_of_ble_eq_true rfl)) dX7_say_31 ⟨Nat.le_refl _, Nat.le_refl _⟩) hG (fun H locs hG => ?_)
      exact zx_iret hx hb hr hlocks rfl hG hf dX7_say_34
    · have hf := zx_pos c_4 hf
      refine lv_iconst (v := (-1 : Int32)) hx hb dX7_say_16 (by decide) ?_
      exact zx_iret hx hb hr hlocks rfl hG hf dX7_say_17

set_option maxHeartbeats 4000000 in
set_option maxRecDepth 100000 in
theorem mX7_hush (l : Launch) (D : va_G) (ad : Nat → Nat) (cA : Nat → ClassId) (x1 : Int32) (I : zxI) (r : Int32) (J : zxI) (hf : fX7_hush x1 I = some (r, J)) (sz : Nat) : Met l yX7_hush wsX7_hush { frames := 3, cells := 0, slots := 0, locals := 64 } (va_Pc [.ref (ad 0), .int x1] (zxPre D shM ad cA I sz)) (va_Qi (fun (r2 : Int32) (I2 : zxI) => r2 = r ∧ I2 = J) (zxPost D shM ad cA sz) (zxA shM ad sz)) 0 0 (zxA shM ad sz) := by
  refine zx_start (by decide) rfl (Nat.le_of_ble_eq_true rfl) ?_
  intro p e s m args below meth c ls hx hb hr hts hown hlocks hml hG hl
  have hl : lv_has ls 4 [(0, .ref (ad 0)), (1, .int x1)] := hl
  have hiX7 : ∀ w ∈ wsX70, w ∈ wsX7_hush := fun w h => List.mem_cons_of_mem _ (List.mem_append_right _ h)
  have L1 := hts (Cond.fieldLink RX7 65 "GalleryBirdsModel" "galleries" "I") (List.mem_of_getElem? (i := 1) rfl)
  have L2 := hts (Cond.fieldLink RX7 104 "GalleryBirdsModel" "breaths" "I") (List.mem_of_getElem? (i := 2) rfl)
  unfold fX7_hush at hf
  refine lv_iload_n hx hb dX7_hush_0 rfl (lv_at hl 1 rfl) ?_
  refine lv_iconst (v := (1 : Int32)) hx hb dX7_hush_1 (by decide) ?_
  refine lv_bipush (v := (30 : Int32)) hx hb dX7_hush_2 (by decide) ?_
  obtain ⟨r_1, I_1, h_1, hf⟩ := zx_b hf
  refine zx_calli (va_runS (As := [.int x1, .int (1 : Int32), .int (30 : Int32)]) (rest := []) ⟨hx, hb, hml, hown, hts⟩ (mX7_within l D ad cA x1 (1 : Int32) (30 : Int32) I r_1 I_1 h_1 _) (va_cwS 3 hts gX7_hush_X7_within rfl rfl rfl hd_X7_within ⟨Nat.le_of_ble_eq_true rfl, Nat.le_of_ble_eq_true rfl⟩) (zx_preS hG) rfl rfl hl.1 rfl (lv_room (Nat.le_of_ble_eq_true rfl)) dX7_hush_4 ⟨Nat.le_refl _, Nat.le_refl _⟩) hG (fun H locs hG => ?_)
  refine lv_if_ne (tgt := 13) hx hb dX7_hush_7 (by decide) (fun c_2 => ?_) (fun c_2 => ?_)
  · have hf := zx_neg c_2 hf
    refine lv_aload_n hx hb dX7_hush_13 rfl (lv_at hl 0 rfl) ?_
    refine zx_getI hx hb hts hiX7 hown hG shM_0 vc_7 5 (by decide) rfl L1 dX7_hush_14 ?_
    refine lv_if_ne (tgt := 23) hx hb dX7_hush_17 (by decide) (fun c_3 => ?_) (fun c_3 => ?_)
    · have hf := zx_neg c_3 hf
      refine lv_iconst (v := (0 : Int32)) hx hb dX7_hush_23 (by decide) ?_
      refine lv_istore_n (lv' := [(2, .int (0 : Int32)), (0, .ref (ad 0)), (1, .int x1)]) hx hb dX7_hush_24 rfl hl (by decide) rfl (fun ls hl => ?_)
      refine lv_iconst (v := (0 : Int32)) hx hb dX7_hush_25 (by decide) ?_
      refine lv_istore_n (lv' := [(3, .int (0 : Int32)), (2, .int (0 : Int32)), (0, .ref (ad 0)), (1, .int x1)]) hx hb dX7_hush_26 rfl hl (by decide) rfl (fun ls hl => ?_)
      have loop27 : ∀ (n : Nat) (v1 : Int32) (v2 : Int32) (v3 : Int32) (I : zxI) (H : Heap) (locs : List Loc) (ls : Array Slot), fX7_hush_L27 n v1 v2 v3 I = some (r, J) → zxAt D shM ad cA I s sz H locs → lv_has ls 4 [(0, .ref (ad 0)), (1, .int v1), (2, .int v2), (3, .int v3)] → W p l e (headSpec wsX7_hush { frames := 3, cells := 0, slots := 0, locals := 64 }).room s m args below meth c H locs 0 0 (MQ below (va_Qi (fun (r2 : Int32) (I2 : zxI) => r2 = r ∧ I2 = J) (zxPost D shM ad cA sz) (zxA shM ad sz)) args s 0 0 (zxA shM ad sz)) (F0 m 27 ls []) := by
        intro n
        induction n with
        | zero =>
          intro v1 v2 v3 I H locs ls hf hG hl
          rw [fX7_hush_L27] at hf
          cases hf
        | succ n27 ih27 =>
          intro v1 v2 v3 I H locs ls hf hG hl
          rw [fX7_hush_L27] at hf
          refine lv_iload_n hx hb dX7_hush_27 rfl (lv_at hl 3 rfl) ?_
          refine lv_iload_n hx hb dX7_hush_28 rfl (lv_at hl 1 rfl) ?_
          refine lv_icmp_ge (tgt := 50) hx hb dX7_hush_29 (by decide) (fun c_4 => ?_) (fun c_4 => ?_)
          · have hf := zx_pos c_4 hf
            refine lv_aload_n hx hb dX7_hush_50 rfl (lv_at hl 0 rfl) ?_
            refine lv_dup hx hb dX7_hush_51 rfl ?_
            refine zx_getI hx hb hts hiX7 hown hG shM_0 vc_7 7 (by decide) rfl L2 dX7_hush_52 ?_
            refine lv_iload_n hx hb dX7_hush_55 rfl (lv_at hl 1 rfl) ?_
            refine lv_iadd hx hb dX7_hush_56 ?_
            refine zx_putI hx hb hts hiX7 tyX7 tyX7_ok nmX7 hown hG shM_0 vc_7 7 (by decide) rfl L2 rfl (ty := .int) (tyX7_ok 7 (by decide)) rfl rfl dX7_hush_57 (fun H locs hG => ?_)
            refine lv_iload_n hx hb dX7_hush_60 rfl (lv_at hl 2 rfl) ?_
            exact zx_iret hx hb hr hlocks rfl hG hf dX7_hush_61
          · have hf := zx_neg c_4 hf
            refine lv_aload_n hx hb dX7_hush_32 rfl (lv_at hl 0 rfl) ?_
            obtain ⟨r_5, I_5, h_5, hf⟩ := zx_b hf
            refine zx_calli (va_runV (As := []) (rest := []) ⟨hx, hb, hml, hown, hts⟩ (mX7_pass l D ad cA I r_5 I_5 h_5 _) (cwV 0 hts gX7_hush_X7_pass rfl rfl rfl hd_X7_pass ⟨Nat.le_of_ble_eq_true rfl, Nat.le_of_ble_eq_true rfl⟩) (zx_preV hG shM_0 vc_7) rfl rfl hl.1 rfl (lv_room (Nat.le_of_ble_eq_true rfl)) dX7_hush_33 ⟨Nat.le_refl _, Nat.le_refl _⟩) hG (fun H locs hG => ?_)
            refine lv_pop hx hb dX7_hush_36 rfl ?_
            refine lv_iload_n hx hb dX7_hush_37 rfl (lv_at hl 2 rfl) ?_
            refine lv_aload_n hx hb dX7_hush_38 rfl (lv_at hl 0 rfl) ?_
            obtain ⟨r_6, I_6, h_6, hf⟩ := zx_b hf
            refine zx_calli (va_runV (As := []) (rest := [.int v2]) ⟨hx, hb, hml, hown, hts⟩ (mX7_drop l D ad cA I_5 r_6 I_6 h_6 _) (cwV 0 hts gX7_hush_X7_drop rfl rfl rfl hd_X7_drop ⟨Nat.le_of_ble_eq_true rfl, Nat.le_of_ble_eq_true rfl⟩) (zx_preV hG shM_0 vc_7) rfl rfl hl.1 rfl (lv_room (Nat.le_of_ble_eq_true rfl)) dX7_hush_39 ⟨Nat.le_refl _, Nat.le_refl _⟩) hG (fun H locs hG => ?_)
            refine lv_ior hx hb dX7_hush_42 ?_
            refine lv_istore_n (lv' := [(2, .int (v2 ||| r_6)), (0, .ref (ad 0)), (1, .int v1), (3, .int v3)]) hx hb dX7_hush_43 rfl hl (by decide) rfl (fun ls hl => ?_)
            refine lv_iinc (v := (v3 + (1 : Int32))) (lv' := [(3, .int (v3 + (1 : Int32))), (2, .int (v2 ||| r_6)), (0, .ref (ad 0)), (1, .int v1)]) hx hb dX7_hush_44 hl (k := 3) rfl (congrArg (HAdd.hAdd v3) (by decide)) (by decide) rfl (fun ls hl => ?_)
            refine lv_goto (tgt := 27) hx hb dX7_hush_47 (by decide) ?_
            exact ih27 v1 (v2 ||| r_6) (v3 + (1 : Int32)) I_6 _ _ ls hf hG (lv_sub hl [2, 3, 1, 0] rfl)
      exact loop27 _ x1 (0 : Int32) (0 : Int32) I_1 _ _ ls hf hG (lv_sub hl [2, 3, 1, 0] rfl)
    · have hf := zx_pos c_3 hf
      refine lv_bipush (v := (-3 : Int32)) hx hb dX7_hush_20 (by decide) ?_
      exact zx_iret hx hb hr hlocks rfl hG hf dX7_hush_22
  · have hf := zx_pos c_2 hf
    refine lv_bipush (v := (-2 : Int32)) hx hb dX7_hush_10 (by decide) ?_
    exact zx_iret hx hb hr hlocks rfl hG hf dX7_hush_12

set_option maxHeartbeats 4000000 in
set_option maxRecDepth 100000 in
theorem mX7_size (l : Launch) (D : va_G) (ad : Nat → Nat) (cA : Nat → ClassId) (x0 : Int32) (I : zxI) (r : Int32) (J : zxI) (hf : fX7_size x0 I = some (r, J)) (sz : Nat) : Met l yX7_size wsX7_size { frames := 0, cells := 0, slots := 0, locals := 0 } (va_Pc [.int x0] (zxPre D shM ad cA I sz)) (va_Qi (fun (r2 : Int32) (I2 : zxI) => r2 = r ∧ I2 = J) (zxPost D shM ad cA sz) (zxA shM ad sz)) 0 0 (zxA shM ad sz) := by
  refine zx_start (by decide) rfl (Nat.le_of_ble_eq_true rfl) ?_
  intro p e s m args below meth c ls hx hb hr hts hown hlocks hml hG hl
  have hl : lv_has ls 3 [(0, .int x0)] := hl
  unfold fX7_size at hf
  refine lv_iconst (v := (0 : Int32)) hx hb dX7_size_0 (by decide) ?_
  refine lv_istore_n (lv' := [(1, .int (0 : Int32)), (0, .int x0)]) hx hb dX7_size_1 rfl hl (by decide) rfl (fun ls hl => ?_)
  refine lv_iload_n hx hb dX7_size_2 rfl (lv_at hl 1 rfl) ?_
  refine lv_istore_n (lv' := [(2, .int x0), (1, .int (0 : Int32)), (0, .int x0)]) hx hb dX7_size_3 rfl hl (by decide) rfl (fun ls hl => ?_)
  have loop4 : ∀ (n : Nat) (v1 : Int32) (v2 : Int32) (I : zxI) (H : Heap) (locs : List Loc) (ls : Array Slot), fX7_size_L4 n v1 v2 I = some (r, J) → zxAt D shM ad cA I s sz H locs → lv_has ls 3 [(1, .int v1), (2, .int v2)] → W p l e (headSpec wsX7_size { frames := 0, cells := 0, slots := 0, locals := 0 }).room s m args below meth c H locs 0 0 (MQ below (va_Qi (fun (r2 : Int32) (I2 : zxI) => r2 = r ∧ I2 = J) (zxPost D shM ad cA sz) (zxA shM ad sz)) args s 0 0 (zxA shM ad sz)) (F0 m 4 ls []) := by
    intro n
    induction n with
    | zero =>
      intro v1 v2 I H locs ls hf hG hl
      rw [fX7_size_L4] at hf
      cases hf
    | succ n4 ih4 =>
      intro v1 v2 I H locs ls hf hG hl
      rw [fX7_size_L4] at hf
      refine lv_iload_n hx hb dX7_size_4 rfl (lv_at hl 1 rfl) ?_
      refine lv_if_le (tgt := 21) hx hb dX7_size_5 (by decide) (fun c_1 => ?_) (fun c_1 => ?_)
      · have hf := zx_pos c_1 hf
        refine lv_iload_n hx hb dX7_size_21 rfl (lv_at hl 0 rfl) ?_
        exact zx_iret hx hb hr hlocks rfl hG hf dX7_size_22
      · have hf := zx_neg c_1 hf
        refine lv_iload_n hx hb dX7_size_8 rfl (lv_at hl 0 rfl) ?_
        refine lv_iload_n hx hb dX7_size_9 rfl (lv_at hl 1 rfl) ?_
        refine lv_iconst (v := (1 : Int32)) hx hb dX7_size_10 (by decide) ?_
        refine lv_iand hx hb dX7_size_11 ?_
        refine lv_iadd hx hb dX7_size_12 ?_
        refine lv_istore_n (lv' := [(1, .int (v1 + (v2 &&& (1 : Int32)))), (2, .int v2)]) hx hb dX7_size_13 rfl hl (by decide) rfl (fun ls hl => ?_)
        refine lv_iload_n hx hb dX7_size_14 rfl (lv_at hl 1 rfl) ?_
        refine lv_iconst (v := (1 : Int32)) hx hb dX7_size_15 (by decide) ?_
        refine lv_ishr hx hb dX7_size_16 ?_
        refine lv_istore_n (lv' := [(2, .int (v2 >>> ((1 : Int32) &&& 31))), (1, .int (v1 + (v2 &&& (1 : Int32))))]) hx hb dX7_size_17 rfl hl (by decide) rfl (fun ls hl => ?_)
        refine lv_goto (tgt := 4) hx hb dX7_size_18 (by decide) ?_
        exact ih4 (v1 + (v2 &&& (1 : Int32))) (v2 >>> ((1 : Int32) &&& 31)) I _ _ ls hf hG (lv_sub hl [1, 0] rfl)
  exact loop4 _ (0 : Int32) x0 I _ _ ls hf hG (lv_sub hl [1, 0] rfl)

set_option maxHeartbeats 4000000 in
set_option maxRecDepth 100000 in
theorem mX7_blow (l : Launch) (D : va_G) (ad : Nat → Nat) (cA : Nat → ClassId) (x1 : Int32) (I : zxI) (r : Int32) (J : zxI) (hf : fX7_blow x1 I = some (r, J)) (sz : Nat) : Met l yX7_blow wsX7_blow { frames := 2, cells := 0, slots := 0, locals := 42 } (va_Pc [.ref (ad 0), .int x1] (zxPre D shM ad cA I sz)) (va_Qi (fun (r2 : Int32) (I2 : zxI) => r2 = r ∧ I2 = J) (zxPost D shM ad cA sz) (zxA shM ad sz)) 0 0 (zxA shM ad sz) := by
  refine zx_start (by decide) rfl (Nat.le_of_ble_eq_true rfl) ?_
  intro p e s m args below meth c ls hx hb hr hts hown hlocks hml hG hl
  have hl : lv_has ls 2 [(0, .ref (ad 0)), (1, .int x1)] := hl
  have hiX7 : ∀ w ∈ wsX70, w ∈ wsX7_blow := fun w h => List.mem_cons_of_mem _ (List.mem_append_right _ h)
  have L1 := hts (Cond.fieldLink RX7 107 "GalleryBirdsModel" "down" "I") (List.mem_of_getElem? (i := 1) rfl)
  have L2 := hts (Cond.fieldLink RX7 25 "GalleryBirdsModel" "foulNow" "[I") (List.mem_of_getElem? (i := 2) rfl)
  unfold fX7_blow at hf
  refine lv_aload_n hx hb dX7_blow_0 rfl (lv_at hl 0 rfl) ?_
  refine lv_iload_n hx hb dX7_blow_1 rfl (lv_at hl 1 rfl) ?_
  obtain ⟨r_1, I_1, h_1, hf⟩ := zx_b hf
  refine zx_calli (va_runV (As := [.int x1]) (rest := []) ⟨hx, hb, hml, hown, hts⟩ (mX7_isGallery l D ad cA x1 I r_1 I_1 h_1 _) (cwV 1 hts gX7_blow_X7_isGallery rfl rfl rfl hd_X7_isGallery ⟨Nat.le_of_ble_eq_true rfl, Nat.le_of_ble_eq_true rfl⟩) (zx_preV hG shM_0 vc_7) rfl rfl hl.1 rfl (lv_room (Nat.le_of_ble_eq_true rfl)) dX7_blow_2 ⟨Nat.le_refl _, Nat.le_refl _⟩) hG (fun H locs hG => ?_)
  refine lv_if_ne (tgt := 10) hx hb dX7_blow_5 (by decide) (fun c_2 => ?_) (fun c_2 => ?_)
  · have hf := zx_neg c_2 hf
    refine lv_aload_n hx hb dX7_blow_10 rfl (lv_at hl 0 rfl) ?_
    refine zx_getI hx hb hts hiX7 hown hG shM_0 vc_7 8 (by decide) rfl L1 dX7_blow_11 ?_
    refine lv_iload_n hx hb dX7_blow_14 rfl (lv_at hl 1 rfl) ?_
    obtain ⟨r_3, I_3, h_3, hf⟩ := zx_b hf
    refine zx_calli (va_runS (As := [.int (I_1 0 8), .int x1]) (rest := []) ⟨hx, hb, hml, hown, hts⟩ (mX7_isOf l D ad cA (I_1 0 8) x1 I_1 r_3 I_3 h_3 _) (va_cwS 2 hts gX7_blow_X7_isOf rfl rfl rfl hd_X7_isOf ⟨Nat.le_of_ble_eq_true rfl, Nat.le_of_ble_eq_true rfl⟩) (zx_preS hG) rfl rfl hl.1 rfl (lv_room (Nat.le_of_ble_eq_true rfl)) dX7_blow_15 ⟨Nat.le_refl _, Nat.le_refl _⟩) hG (fun H locs hG => ?_)
    refine lv_if_eq (tgt := 35) hx hb dX7_blow_18 (by decide) (fun c_4 => ?_) (fun c_4 => ?_)
    · have hf := zx_pos c_4 hf
      refine lv_bipush (v := (-3 : Int32)) hx hb dX7_blow_35 (by decide) ?_
      exact zx_iret hx hb hr hlocks rfl hG hf dX7_blow_37
    · have hf := zx_neg c_4 hf
      refine lv_aload_n hx hb dX7_blow_21 rfl (lv_at hl 0 rfl) ?_
      refine zx_getR (d := 6) hx hb hts hiX7 hown hG shM_0 vc_7 12 (by decide) rfl L2 dX7_blow_22 ?_
      refine lv_iload_n hx hb dX7_blow_25 rfl (lv_at hl 1 rfl) ?_
      obtain ⟨g_5, hf⟩ := zx_in hf
      refine zx_ald hx hb hG shM_6 g_5 dX7_blow_26 ?_
      refine lv_aload_n hx hb dX7_blow_27 rfl (lv_at hl 0 rfl) ?_
      refine lv_iload_n hx hb dX7_blow_28 rfl (lv_at hl 1 rfl) ?_
      obtain ⟨r_6, I_6, h_6, hf⟩ := zx_b hf
      refine zx_calli (va_runV (As := [.int x1]) (rest := [.int (I_3 6 x1.toNatClampNeg)]) ⟨hx, hb, hml, hown, hts⟩ (mX7_bearsOf l D ad cA x1 I_3 r_6 I_6 h_6 _) (cwV 1 hts gX7_blow_X7_bearsOf rfl rfl rfl hd_X7_bearsOf ⟨Nat.le_of_ble_eq_true rfl, Nat.le_of_ble_eq_true rfl⟩) (zx_preV hG shM_0 vc_7) rfl rfl hl.1 rfl (lv_room (Nat.le_of_ble_eq_true rfl)) dX7_blow_29 ⟨Nat.le_refl _, Nat.le_refl _⟩) hG (fun H locs hG => ?_)
      refine lv_icmp_le (tgt := 38) hx hb dX7_blow_32 (by decide) (fun c_7 => ?_) (fun c_7 => ?_)
      · have hf := zx_pos c_7 hf
        refine lv_aload_n hx hb dX7_blow_38 rfl (lv_at hl 0 rfl) ?_
        refine lv_dup hx hb dX7_blow_39 rfl ?_
        refine zx_getI hx hb hts hiX7 hown hG shM_0 vc_7 8 (by decide) rfl L1 dX7_blow_40 ?_
        refine lv_iconst (v := (1 : Int32)) hx hb dX7_blow_43 (by decide) ?_
        refine lv_iload_n hx hb dX7_blow_44 rfl (lv_at hl 1 rfl) ?_
        refine lv_ishl hx hb dX7_blow_45 ?_
        refine lv_iconst (v := (-1 : Int32)) hx hb dX7_blow_46 (by decide) ?_
        refine lv_ixor hx hb dX7_blow_47 ?_
        refine lv_iand hx hb dX7_blow_48 ?_
        refine zx_putI hx hb hts hiX7 tyX7 tyX7_ok nmX7 hown hG shM_0 vc_7 8 (by decide) rfl L1 rfl (ty := .int) (tyX7_ok 8 (by decide)) rfl rfl dX7_blow_49 (fun H locs hG => ?_)
        refine lv_aload_n hx hb dX7_blow_52 rfl (lv_at hl 0 rfl) ?_
        refine zx_getI hx hb hts hiX7 hown hG shM_0 vc_7 8 (by decide) rfl L1 dX7_blow_53 ?_
        obtain ⟨r_8, I_8, h_8, hf⟩ := zx_b hf
        refine zx_calli (va_runS (As := [.int ((zxU I_6 0 8 ((I_6 0 8) &&& (((1 : Int32) <<< (x1 &&& 31)) ^^^ (-1 : Int32)))) 0 8)]) (rest := []) ⟨hx, hb, hml, hown, hts⟩ (mX7_size l D ad cA ((zxU I_6 0 8 ((I_6 0 8) &&& (((1 : Int32) <<< (x1 &&& 31)) ^^^ (-1 : Int32)))) 0 8) (zxU I_6 0 8 ((I_6 0 8) &&& (((1 : Int32) <<< (x1 &&& 31)) ^^^ (-1 : Int32)))) r_8 I_8 h_8 _) (va_cwS 1 hts gX7_blow_X7_size rfl rfl rfl hd_X7_size ⟨Nat.le_of_ble_eq_true rfl, Nat.le_of_ble_eq_true rfl⟩) (zx_preS hG) rfl rfl hl.1 rfl (lv_room (Nat.le_of_ble_eq_true rfl)) dX7_blow_56 ⟨Nat.le_refl _, Nat.le_refl _⟩) hG (fun H locs hG => ?_)
        exact zx_iret hx hb hr hlocks rfl hG hf dX7_blow_59
      · have hf := zx_neg c_7 hf
        refine lv_bipush (v := (-3 : Int32)) hx hb dX7_blow_35 (by decide) ?_
        exact zx_iret hx hb hr hlocks rfl hG hf dX7_blow_37
  · have hf := zx_pos c_2 hf
    refine lv_iconst (v := (-1 : Int32)) hx hb dX7_blow_8 (by decide) ?_
    exact zx_iret hx hb hr hlocks rfl hG hf dX7_blow_9

set_option maxHeartbeats 4000000 in
set_option maxRecDepth 100000 in
theorem mX7_keep (l : Launch) (D : va_G) (ad : Nat → Nat) (cA : Nat → ClassId) (I : zxI) (J : zxI) (hf : fX7_keep I = some J) (sz : Nat) : Met l yX7_keep wsX7_keep { frames := 0, cells := 0, slots := 0, locals := 0 } (va_Pc [.ref (ad 0)] (zxPre D shM ad cA I sz)) (va_Qv (fun (I2 : zxI) => I2 = J) (zxPost D shM ad cA sz) (zxA shM ad sz)) 0 0 (zxA shM ad sz) := by
  refine zx_start (by decide) rfl (Nat.le_of_ble_eq_true rfl) ?_
  intro p e s m args below meth c ls hx hb hr hts hown hlocks hml hG hl
  have hl : lv_has ls 2 [(0, .ref (ad 0))] := hl
  have hiX7 : ∀ w ∈ wsX70, w ∈ wsX7_keep := fun w h => List.mem_cons_of_mem _ (List.mem_append_right _ h)
  have L1 := hts (Cond.fieldLink RX7 107 "GalleryBirdsModel" "down" "I") (List.mem_of_getElem? (i := 1) rfl)
  have L2 := hts (Cond.fieldLink RX7 163 "GalleryBirdsModel" "keptDown" "I") (List.mem_of_getElem? (i := 2) rfl)
  have L3 := hts (Cond.fieldLink RX7 65 "GalleryBirdsModel" "galleries" "I") (List.mem_of_getElem? (i := 3) rfl)
  have L4 := hts (Cond.fieldLink RX7 37 "GalleryBirdsModel" "keptFoul" "[I") (List.mem_of_getElem? (i := 4) rfl)
  have L5 := hts (Cond.fieldLink RX7 25 "GalleryBirdsModel" "foulNow" "[I") (List.mem_of_getElem? (i := 5) rfl)
  unfold fX7_keep at hf
  refine lv_aload_n hx hb dX7_keep_0 rfl (lv_at hl 0 rfl) ?_
  refine lv_aload_n hx hb dX7_keep_1 rfl (lv_at hl 0 rfl) ?_
  refine zx_getI hx hb hts hiX7 hown hG shM_0 vc_7 8 (by decide) rfl L1 dX7_keep_2 ?_
  refine zx_putI hx hb hts hiX7 tyX7 tyX7_ok nmX7 hown hG shM_0 vc_7 20 (by decide) rfl L2 rfl (ty := .int) (tyX7_ok 20 (by decide)) rfl rfl dX7_keep_5 (fun H locs hG => ?_)
  refine lv_iconst (v := (0 : Int32)) hx hb dX7_keep_8 (by decide) ?_
  refine lv_istore_n (lv' := [(1, .int (0 : Int32)), (0, .ref (ad 0))]) hx hb dX7_keep_9 rfl hl (by decide) rfl (fun ls hl => ?_)
  have loop10 : ∀ (n : Nat) (v1 : Int32) (I : zxI) (H : Heap) (locs : List Loc) (ls : Array Slot), fX7_keep_L10 n v1 I = some J → zxAt D shM ad cA I s sz H locs → lv_has ls 2 [(0, .ref (ad 0)), (1, .int v1)] → W p l e (headSpec wsX7_keep { frames := 0, cells := 0, slots := 0, locals := 0 }).room s m args below meth c H locs 0 0 (MQ below (va_Qv (fun (I2 : zxI) => I2 = J) (zxPost D shM ad cA sz) (zxA shM ad sz)) args s 0 0 (zxA shM ad sz)) (F0 m 10 ls []) := by
    intro n
    induction n with
    | zero =>
      intro v1 I H locs ls hf hG hl
      rw [fX7_keep_L10] at hf
      cases hf
    | succ n10 ih10 =>
      intro v1 I H locs ls hf hG hl
      rw [fX7_keep_L10] at hf
      refine lv_iload_n hx hb dX7_keep_10 rfl (lv_at hl 1 rfl) ?_
      refine lv_aload_n hx hb dX7_keep_11 rfl (lv_at hl 0 rfl) ?_
      refine zx_getI hx hb hts hiX7 hown hG shM_0 vc_7 5 (by decide) rfl L3 dX7_keep_12 ?_
      refine lv_icmp_ge (tgt := 36) hx hb dX7_keep_15 (by decide) (fun c_1 => ?_) (fun c_1 => ?_)
      · have hf := zx_pos c_1 hf
        exact zx_vret hx hb hr hlocks hG hf dX7_keep_36
      · have hf := zx_neg c_1 hf
        refine lv_aload_n hx hb dX7_keep_18 rfl (lv_at hl 0 rfl) ?_
        refine zx_getR (d := 10) hx hb hts hiX7 hown hG shM_0 vc_7 19 (by decide) rfl L4 dX7_keep_19 ?_
        refine lv_iload_n hx hb dX7_keep_22 rfl (lv_at hl 1 rfl) ?_
        refine lv_aload_n hx hb dX7_keep_23 rfl (lv_at hl 0 rfl) ?_
        refine zx_getR (d := 6) hx hb hts hiX7 hown hG shM_0 vc_7 12 (by decide) rfl L5 dX7_keep_24 ?_
        refine lv_iload_n hx hb dX7_keep_27 rfl (lv_at hl 1 rfl) ?_
        obtain ⟨g_2, hf⟩ := zx_in hf
        refine zx_ald hx hb hG shM_6 g_2 dX7_keep_28 ?_
        refine zx_ast hx hb hG shM_10 g_2 dX7_keep_29 (fun H locs hG => ?_)
        refine lv_iinc (v := (v1 + (1 : Int32))) (lv' := [(1, .int (v1 + (1 : Int32))), (0, .ref (ad 0))]) hx hb dX7_keep_30 hl (k := 1) rfl (congrArg (HAdd.hAdd v1) (by decide)) (by decide) rfl (fun ls hl => ?_)
        refine lv_goto (tgt := 10) hx hb dX7_keep_33 (by decide) ?_
        exact ih10 (v1 + (1 : Int32)) (zxU I 10 v1.toNatClampNeg (I 6 v1.toNatClampNeg)) _ _ ls hf hG (lv_sub hl [1, 0] rfl)
  exact loop10 _ (0 : Int32) (zxU I 0 20 (I 0 8)) _ _ ls hf hG (lv_sub hl [1, 0] rfl)

set_option maxHeartbeats 4000000 in
set_option maxRecDepth 100000 in
theorem mX7_putBack (l : Launch) (D : va_G) (ad : Nat → Nat) (cA : Nat → ClassId) (I : zxI) (J : zxI) (hf : fX7_putBack I = some J) (sz : Nat) : Met l yX7_putBack wsX7_putBack { frames := 0, cells := 0, slots := 0, locals := 0 } (va_Pc [.ref (ad 0)] (zxPre D shM ad cA I sz)) (va_Qv (fun (I2 : zxI) => I2 = J) (zxPost D shM ad cA sz) (zxA shM ad sz)) 0 0 (zxA shM ad sz) := by
  refine zx_start (by decide) rfl (Nat.le_of_ble_eq_true rfl) ?_
  intro p e s m args below meth c ls hx hb hr hts hown hlocks hml hG hl
  have hl : lv_has ls 2 [(0, .ref (ad 0))] := hl
  have hiX7 : ∀ w ∈ wsX70, w ∈ wsX7_putBack := fun w h => List.mem_cons_of_mem _ (List.mem_append_right _ h)
  have L1 := hts (Cond.fieldLink RX7 163 "GalleryBirdsModel" "keptDown" "I") (List.mem_of_getElem? (i := 1) rfl)
  have L2 := hts (Cond.fieldLink RX7 107 "GalleryBirdsModel" "down" "I") (List.mem_of_getElem? (i := 2) rfl)
  have L3 := hts (Cond.fieldLink RX7 65 "GalleryBirdsModel" "galleries" "I") (List.mem_of_getElem? (i := 3) rfl)
  have L4 := hts (Cond.fieldLink RX7 25 "GalleryBirdsModel" "foulNow" "[I") (List.mem_of_getElem? (i := 4) rfl)
  have L5 := hts (Cond.fieldLink RX7 37 "GalleryBirdsModel" "keptFoul" "[I") (List.mem_of_getElem? (i := 5) rfl)
  unfold fX7_putBack at hf
  refine lv_aload_n hx hb dX7_putBack_0 rfl (lv_at hl 0 rfl) ?_
  refine lv_aload_n hx hb dX7_putBack_1 rfl (lv_at hl 0 rfl) ?_
  refine zx_getI hx hb hts hiX7 hown hG shM_0 vc_7 20 (by decide) rfl L1 dX7_putBack_2 ?_
  refine zx_putI hx hb hts hiX7 tyX7 tyX7_ok nmX7 hown hG shM_0 vc_7 8 (by decide) rfl L2 rfl (ty := .int) (tyX7_ok 8 (by decide)) rfl rfl dX7_putBack_5 (fun H locs hG => ?_)
  refine lv_iconst (v := (0 : Int32)) hx hb dX7_putBack_8 (by decide) ?_
  refine lv_istore_n (lv' := [(1, .int (0 : Int32)), (0, .ref (ad 0))]) hx hb dX7_putBack_9 rfl hl (by decide) rfl (fun ls hl => ?_)
  have loop10 : ∀ (n : Nat) (v1 : Int32) (I : zxI) (H : Heap) (locs : List Loc) (ls : Array Slot), fX7_putBack_L10 n v1 I = some J → zxAt D shM ad cA I s sz H locs → lv_has ls 2 [(0, .ref (ad 0)), (1, .int v1)] → W p l e (headSpec wsX7_putBack { frames := 0, cells := 0, slots := 0, locals := 0 }).room s m args below meth c H locs 0 0 (MQ below (va_Qv (fun (I2 : zxI) => I2 = J) (zxPost D shM ad cA sz) (zxA shM ad sz)) args s 0 0 (zxA shM ad sz)) (F0 m 10 ls []) := by
    intro n
    induction n with
    | zero =>
      intro v1 I H locs ls hf hG hl
      rw [fX7_putBack_L10] at hf
      cases hf
    | succ n10 ih10 =>
      intro v1 I H locs ls hf hG hl
      rw [fX7_putBack_L10] at hf
      refine lv_iload_n hx hb dX7_putBack_10 rfl (lv_at hl 1 rfl) ?_
      refine lv_aload_n hx hb dX7_putBack_11 rfl (lv_at hl 0 rfl) ?_
      refine zx_getI hx hb hts hiX7 hown hG shM_0 vc_7 5 (by decide) rfl L3 dX7_putBack_12 ?_
      refine lv_icmp_ge (tgt := 36) hx hb dX7_putBack_15 (by decide) (fun c_1 => ?_) (fun c_1 => ?_)
      · have hf := zx_pos c_1 hf
        exact zx_vret hx hb hr hlocks hG hf dX7_putBack_36
      · have hf := zx_neg c_1 hf
        refine lv_aload_n hx hb dX7_putBack_18 rfl (lv_at hl 0 rfl) ?_
        refine zx_getR (d := 6) hx hb hts hiX7 hown hG shM_0 vc_7 12 (by decide) rfl L4 dX7_putBack_19 ?_
        refine lv_iload_n hx hb dX7_putBack_22 rfl (lv_at hl 1 rfl) ?_
        refine lv_aload_n hx hb dX7_putBack_23 rfl (lv_at hl 0 rfl) ?_
        refine zx_getR (d := 10) hx hb hts hiX7 hown hG shM_0 vc_7 19 (by decide) rfl L5 dX7_putBack_24 ?_
        refine lv_iload_n hx hb dX7_putBack_27 rfl (lv_at hl 1 rfl) ?_
        obtain ⟨g_2, hf⟩ := zx_in hf
        refine zx_ald hx hb hG shM_10 g_2 dX7_putBack_28 ?_
        refine zx_ast hx hb hG shM_6 g_2 dX7_putBack_29 (fun H locs hG => ?_)
        refine lv_iinc (v := (v1 + (1 : Int32))) (lv' := [(1, .int (v1 + (1 : Int32))), (0, .ref (ad 0))]) hx hb dX7_putBack_30 hl (k := 1) rfl (congrArg (HAdd.hAdd v1) (by decide)) (by decide) rfl (fun ls hl => ?_)
        refine lv_goto (tgt := 10) hx hb dX7_putBack_33 (by decide) ?_
        exact ih10 (v1 + (1 : Int32)) (zxU I 6 v1.toNatClampNeg (I 10 v1.toNatClampNeg)) _ _ ls hf hG (lv_sub hl [1, 0] rfl)
  exact loop10 _ (0 : Int32) (zxU I 0 8 (I 0 20)) _ _ ls hf hG (lv_sub hl [1, 0] rfl)

set_option maxHeartbeats 4000000 in
set_option maxRecDepth 100000 in
theorem mX7_refusesPairs (l : Launch) (D : va_G) (ad : Nat → Nat) (cA : Nat → ClassId) (x1 : Int32) (x2 : Int32) (I : zxI) (r : Int32) (J : zxI) (hf : fX7_refusesPairs x1 x2 I = some (r, J)) (sz : Nat) : Met l yX7_refusesPairs wsX7_refusesPairs { frames := 1, cells := 0, slots := 0, locals := 21 } (va_Pc [.ref (ad 0), .int x1, .int x2] (zxPre D shM ad cA I sz)) (va_Qi (fun (r2 : Int32) (I2 : zxI) => r2 = r ∧ I2 = J) (zxPost D shM ad cA sz) (zxA shM ad sz)) 0 0 (zxA shM ad sz) := by
  refine zx_start (by decide) rfl (Nat.le_of_ble_eq_true rfl) ?_
  intro p e s m args below meth c ls hx hb hr hts hown hlocks hml hG hl
  have hl : lv_has ls 4 [(0, .ref (ad 0)), (1, .int x1), (2, .int x2)] := hl
  have hiX7 : ∀ w ∈ wsX70, w ∈ wsX7_refusesPairs := fun w h => List.mem_cons_of_mem _ (List.mem_append_right _ h)
  have L1 := hts (Cond.fieldLink RX7 16 "GalleryBirdsModel" "cells" "[I") (List.mem_of_getElem? (i := 1) rfl)
  unfold fX7_refusesPairs at hf
  refine lv_iconst (v := (0 : Int32)) hx hb dX7_refusesPairs_0 (by decide) ?_
  refine lv_istore_n (lv' := [(3, .int (0 : Int32)), (0, .ref (ad 0)), (1, .int x1), (2, .int x2)]) hx hb dX7_refusesPairs_1 rfl hl (by decide) rfl (fun ls hl => ?_)
  have loop2 : ∀ (n : Nat) (v1 : Int32) (v2 : Int32) (v3 : Int32) (I : zxI) (H : Heap) (locs : List Loc) (ls : Array Slot), fX7_refusesPairs_L2 n v1 v2 v3 I = some (r, J) → zxAt D shM ad cA I s sz H locs → lv_has ls 4 [(0, .ref (ad 0)), (1, .int v1), (2, .int v2), (3, .int v3)] → W p l e (headSpec wsX7_refusesPairs { frames := 1, cells := 0, slots := 0, locals := 21 }).room s m args below meth c H locs 0 0 (MQ below (va_Qi (fun (r2 : Int32) (I2 : zxI) => r2 = r ∧ I2 = J) (zxPost D shM ad cA sz) (zxA shM ad sz)) args s 0 0 (zxA shM ad sz)) (F0 m 2 ls []) := by
    intro n
    induction n with
    | zero =>
      intro v1 v2 v3 I H locs ls hf hG hl
      rw [fX7_refusesPairs_L2] at hf
      cases hf
    | succ n2 ih2 =>
      intro v1 v2 v3 I H locs ls hf hG hl
      rw [fX7_refusesPairs_L2] at hf
      refine lv_iload_n hx hb dX7_refusesPairs_2 rfl (lv_at hl 3 rfl) ?_
      refine lv_iload_n hx hb dX7_refusesPairs_3 rfl (lv_at hl 2 rfl) ?_
      refine lv_icmp_ge (tgt := 51) hx hb dX7_refusesPairs_4 (by decide) (fun c_1 => ?_) (fun c_1 => ?_)
      · have hf := zx_pos c_1 hf
        refine lv_iconst (v := (0 : Int32)) hx hb dX7_refusesPairs_51 (by decide) ?_
        exact zx_iret hx hb hr hlocks rfl hG hf dX7_refusesPairs_52
      · have hf := zx_neg c_1 hf
        refine lv_aload_n hx hb dX7_refusesPairs_7 rfl (lv_at hl 0 rfl) ?_
        refine lv_aload_n hx hb dX7_refusesPairs_8 rfl (lv_at hl 0 rfl) ?_
        refine zx_getR (d := 3) hx hb hts hiX7 hown hG shM_0 vc_7 4 (by decide) rfl L1 dX7_refusesPairs_9 ?_
        refine lv_iload_n hx hb dX7_refusesPairs_12 rfl (lv_at hl 1 rfl) ?_
        refine lv_iconst (v := (2 : Int32)) hx hb dX7_refusesPairs_13 (by decide) ?_
        refine lv_iload_n hx hb dX7_refusesPairs_14 rfl (lv_at hl 3 rfl) ?_
        refine lv_imul hx hb dX7_refusesPairs_15 ?_
        refine lv_iadd hx hb dX7_refusesPairs_16 ?_
        obtain ⟨g_2, hf⟩ := zx_in hf
        refine zx_ald hx hb hG shM_3 g_2 dX7_refusesPairs_17 ?_
        obtain ⟨r_3, I_3, h_3, hf⟩ := zx_b hf
        refine zx_calli (va_runV (As := [.int (I 3 (v1 + ((2 : Int32) * v3)).toNatClampNeg)]) (rest := []) ⟨hx, hb, hml, hown, hts⟩ (mX7_isGallery l D ad cA (I 3 (v1 + ((2 : Int32) * v3)).toNatClampNeg) I r_3 I_3 h_3 _) (cwV 1 hts gX7_refusesPairs_X7_isGallery rfl rfl rfl hd_X7_isGallery ⟨Nat.le_of_ble_eq_true rfl, Nat.le_of_ble_eq_true rfl⟩) (zx_preV hG shM_0 vc_7) rfl rfl hl.1 rfl (lv_room (Nat.le_of_ble_eq_true rfl)) dX7_refusesPairs_18 ⟨Nat.le_refl _, Nat.le_refl _⟩) hG (fun H locs hG => ?_)
        refine lv_if_eq (tgt := 43) hx hb dX7_refusesPairs_21 (by decide) (fun c_4 => ?_) (fun c_4 => ?_)
        · have hf := zx_pos c_4 hf
          refine lv_iconst (v := (-1 : Int32)) hx hb dX7_refusesPairs_43 (by decide) ?_
          exact zx_iret hx hb hr hlocks rfl hG hf dX7_refusesPairs_44
        · have hf := zx_neg c_4 hf
          refine lv_aload_n hx hb dX7_refusesPairs_24 rfl (lv_at hl 0 rfl) ?_
          refine lv_aload_n hx hb dX7_refusesPairs_25 rfl (lv_at hl 0 rfl) ?_
          refine zx_getR (d := 3) hx hb hts hiX7 hown hG shM_0 vc_7 4 (by decide) rfl L1 dX7_refusesPairs_26 ?_
          refine lv_iload_n hx hb dX7_refusesPairs_29 rfl (lv_at hl 1 rfl) ?_
          refine lv_iconst (v := (2 : Int32)) hx hb dX7_refusesPairs_30 (by decide) ?_
          refine lv_iload_n hx hb dX7_refusesPairs_31 rfl (lv_at hl 3 rfl) ?_
          refine lv_imul hx hb dX7_refusesPairs_32 ?_
          refine lv_iadd hx hb dX7_refusesPairs_33 ?_
          refine lv_iconst (v := (1 : Int32)) hx hb dX7_refusesPairs_34 (by decide) ?_
          refine lv_iadd hx hb dX7_refusesPairs_35 ?_
          obtain ⟨g_5, hf⟩ := zx_in hf
          refine zx_ald hx hb hG shM_3 g_5 dX7_refusesPairs_36 ?_
          obtain ⟨r_6, I_6, h_6, hf⟩ := zx_b hf
          refine zx_calli (va_runV (As := [.int (I_3 3 ((v1 + ((2 : Int32) * v3)) + (1 : Int32)).toNatClampNeg)]) (rest := []) ⟨hx, hb, hml, hown, hts⟩ (mX7_isWord l D ad cA (I_3 3 ((v1 + ((2 : Int32) * v3)) + (1 : Int32)).toNatClampNeg) I_3 r_6 I_6 h_6 _) (cwV 1 hts gX7_refusesPairs_X7_isWord rfl rfl rfl hd_X7_isWord ⟨Nat.le_of_ble_eq_true rfl, Nat.le_of_ble_eq_true rfl⟩) (zx_preV hG shM_0 vc_7) rfl rfl hl.1 rfl (lv_room (Nat.le_of_ble_eq_true rfl)) dX7_refusesPairs_37 ⟨Nat.le_refl _, Nat.le_refl _⟩) hG (fun H locs hG => ?_)
          refine lv_if_ne (tgt := 45) hx hb dX7_refusesPairs_40 (by decide) (fun c_7 => ?_) (fun c_7 => ?_)
          · have hf := zx_neg c_7 hf
            refine lv_iinc (v := (v3 + (1 : Int32))) (lv' := [(3, .int (v3 + (1 : Int32))), (0, .ref (ad 0)), (1, .int v1), (2, .int v2)]) hx hb dX7_refusesPairs_45 hl (k := 3) rfl (congrArg (HAdd.hAdd v3) (by decide)) (by decide) rfl (fun ls hl => ?_)
            refine lv_goto (tgt := 2) hx hb dX7_refusesPairs_48 (by decide) ?_
            exact ih2 v1 v2 (v3 + (1 : Int32)) I_6 _ _ ls hf hG (lv_sub hl [1, 2, 3, 0] rfl)
          · have hf := zx_pos c_7 hf
            refine lv_iconst (v := (-1 : Int32)) hx hb dX7_refusesPairs_43 (by decide) ?_
            exact zx_iret hx hb hr hlocks rfl hG hf dX7_refusesPairs_44
  exact loop2 _ x1 x2 (0 : Int32) I _ _ ls hf hG (lv_sub hl [1, 2, 3, 0] rfl)

set_option maxHeartbeats 4000000 in
set_option maxRecDepth 100000 in
theorem mX7_goShift (l : Launch) (D : va_G) (ad : Nat → Nat) (cA : Nat → ClassId) (x1 : Int32) (x2 : Int32) (I : zxI) (J : zxI) (hf : fX7_goShift x1 x2 I = some J) (sz : Nat) : Met l yX7_goShift wsX7_goShift { frames := 4, cells := 0, slots := 0, locals := 86 } (va_Pc [.ref (ad 0), .int x1, .int x2] (zxPre D shM ad cA I sz)) (va_Qv (fun (I2 : zxI) => I2 = J) (zxPost D shM ad cA sz) (zxA shM ad sz)) 0 0 (zxA shM ad sz) := by
  refine zx_start (by decide) rfl (Nat.le_of_ble_eq_true rfl) ?_
  intro p e s m args below meth c ls hx hb hr hts hown hlocks hml hG hl
  have hl : lv_has ls 5 [(0, .ref (ad 0)), (1, .int x1), (2, .int x2)] := hl
  have hiX7 : ∀ w ∈ wsX70, w ∈ wsX7_goShift := fun w h => List.mem_cons_of_mem _ (List.mem_append_right _ h)
  have L1 := hts (Cond.fieldLink RX7 166 "GalleryBirdsModel" "dropped" "I") (List.mem_of_getElem? (i := 1) rfl)
  have L2 := hts (Cond.fieldLink RX7 169 "GalleryBirdsModel" "firstWrong" "I") (List.mem_of_getElem? (i := 2) rfl)
  have L3 := hts (Cond.fieldLink RX7 16 "GalleryBirdsModel" "cells" "[I") (List.mem_of_getElem? (i := 3) rfl)
  unfold fX7_goShift at hf
  refine lv_aload_n hx hb dX7_goShift_0 rfl (lv_at hl 0 rfl) ?_
  refine lv_iconst (v := (0 : Int32)) hx hb dX7_goShift_1 (by decide) ?_
  refine zx_putI hx hb hts hiX7 tyX7 tyX7_ok nmX7 hown hG shM_0 vc_7 21 (by decide) rfl L1 rfl (ty := .int) (tyX7_ok 21 (by decide)) rfl rfl dX7_goShift_2 (fun H locs hG => ?_)
  refine lv_aload_n hx hb dX7_goShift_5 rfl (lv_at hl 0 rfl) ?_
  refine lv_bipush (v := (-9 : Int32)) hx hb dX7_goShift_6 (by decide) ?_
  refine zx_putI hx hb hts hiX7 tyX7 tyX7_ok nmX7 hown hG shM_0 vc_7 22 (by decide) rfl L2 rfl (ty := .int) (tyX7_ok 22 (by decide)) rfl rfl dX7_goShift_8 (fun H locs hG => ?_)
  refine lv_iconst (v := (0 : Int32)) hx hb dX7_goShift_11 (by decide) ?_
  refine lv_istore_n (lv' := [(3, .int (0 : Int32)), (0, .ref (ad 0)), (1, .int x1), (2, .int x2)]) hx hb dX7_goShift_12 rfl hl (by decide) rfl (fun ls hl => ?_)
  have loop13 : ∀ (n : Nat) (v1 : Int32) (v2 : Int32) (v3 : Int32) (I : zxI) (H : Heap) (locs : List Loc) (ls : Array Slot), fX7_goShift_L13 n v1 v2 v3 I = some J → zxAt D shM ad cA I s sz H locs → lv_has ls 5 [(0, .ref (ad 0)), (1, .int v1), (2, .int v2), (3, .int v3)] → W p l e (headSpec wsX7_goShift { frames := 4, cells := 0, slots := 0, locals := 86 }).room s m args below meth c H locs 0 0 (MQ below (va_Qv (fun (I2 : zxI) => I2 = J) (zxPost D shM ad cA sz) (zxA shM ad sz)) args s 0 0 (zxA shM ad sz)) (F0 m 13 ls []) := by
    intro n
    induction n with
    | zero =>
      intro v1 v2 v3 I H locs ls hf hG hl
      rw [fX7_goShift_L13] at hf
      cases hf
    | succ n13 ih13 =>
      intro v1 v2 v3 I H locs ls hf hG hl
      rw [fX7_goShift_L13] at hf
      refine lv_iload_n hx hb dX7_goShift_13 rfl (lv_at hl 3 rfl) ?_
      refine lv_iload_n hx hb dX7_goShift_14 rfl (lv_at hl 2 rfl) ?_
      refine lv_icmp_ge (tgt := 92) hx hb dX7_goShift_15 (by decide) (fun c_1 => ?_) (fun c_1 => ?_)
      · have hf := zx_pos c_1 hf
        exact zx_vret hx hb hr hlocks hG hf dX7_goShift_92
      · have hf := zx_neg c_1 hf
        refine lv_aload_n hx hb dX7_goShift_18 rfl (lv_at hl 0 rfl) ?_
        refine lv_aload_n hx hb dX7_goShift_19 rfl (lv_at hl 0 rfl) ?_
        refine zx_getR (d := 3) hx hb hts hiX7 hown hG shM_0 vc_7 4 (by decide) rfl L3 dX7_goShift_20 ?_
        refine lv_iload_n hx hb dX7_goShift_23 rfl (lv_at hl 1 rfl) ?_
        refine lv_iconst (v := (2 : Int32)) hx hb dX7_goShift_24 (by decide) ?_
        refine lv_iload_n hx hb dX7_goShift_25 rfl (lv_at hl 3 rfl) ?_
        refine lv_imul hx hb dX7_goShift_26 ?_
        refine lv_iadd hx hb dX7_goShift_27 ?_
        obtain ⟨g_2, hf⟩ := zx_in hf
        refine zx_ald hx hb hG shM_3 g_2 dX7_goShift_28 ?_
        refine lv_aload_n hx hb dX7_goShift_29 rfl (lv_at hl 0 rfl) ?_
        refine zx_getR (d := 3) hx hb hts hiX7 hown hG shM_0 vc_7 4 (by decide) rfl L3 dX7_goShift_30 ?_
        refine lv_iload_n hx hb dX7_goShift_33 rfl (lv_at hl 1 rfl) ?_
        refine lv_iconst (v := (2 : Int32)) hx hb dX7_goShift_34 (by decide) ?_
        refine lv_iload_n hx hb dX7_goShift_35 rfl (lv_at hl 3 rfl) ?_
        refine lv_imul hx hb dX7_goShift_36 ?_
        refine lv_iadd hx hb dX7_goShift_37 ?_
        refine lv_iconst (v := (1 : Int32)) hx hb dX7_goShift_38 (by decide) ?_
        refine lv_iadd hx hb dX7_goShift_39 ?_
        obtain ⟨g_3, hf⟩ := zx_in hf
        refine zx_ald hx hb hG shM_3 g_3 dX7_goShift_40 ?_
        obtain ⟨r_4, I_4, h_4, hf⟩ := zx_b hf
        refine zx_calli (va_runV (As := [.int (I 3 (v1 + ((2 : Int32) * v3)).toNatClampNeg), .int (I 3 ((v1 + ((2 : Int32) * v3)) + (1 : Int32)).toNatClampNeg)]) (rest := []) ⟨hx, hb, hml, hown, hts⟩ (mX7_breathe l D ad cA (I 3 (v1 + ((2 : Int32) * v3)).toNatClampNeg) (I 3 ((v1 + ((2 : Int32) * v3)) + (1 : Int32)).toNatClampNeg) I r_4 I_4 h_4 _) (cwV 2 hts gX7_goShift_X7_breathe rfl rfl rfl hd_X7_breathe ⟨Nat.le_of_ble_eq_true rfl, Nat.le_of_ble_eq_true rfl⟩) (zx_preV hG shM_0 vc_7) rfl rfl hl.1 rfl (lv_room (Nat.le_of_ble_eq_true rfl)) dX7_goShift_41 ⟨Nat.le_refl _, Nat.le_refl _⟩) hG (fun H locs hG => ?_)
        refine lv_istore (lv' := [(4, .int r_4), (0, .ref (ad 0)), (1, .int v1), (2, .int v2), (3, .int v3)]) hx hb dX7_goShift_44 hl (by decide) rfl (fun ls hl => ?_)
        refine lv_aload_n hx hb dX7_goShift_46 rfl (lv_at hl 1 rfl) ?_
        refine lv_dup hx hb dX7_goShift_47 rfl ?_
        refine zx_getI hx hb hts hiX7 hown hG shM_0 vc_7 21 (by decide) rfl L1 dX7_goShift_48 ?_
        refine lv_iload hx hb dX7_goShift_51 (lv_at hl 0 rfl) ?_
        obtain ⟨r_5, I_5, h_5, hf⟩ := zx_b hf
        refine zx_calli (va_runS (As := [.int r_4]) (rest := [.int (I_4 0 21), .ref (ad 0)]) ⟨hx, hb, hml, hown, hts⟩ (mX7_size l D ad cA r_4 I_4 r_5 I_5 h_5 _) (va_cwS 1 hts gX7_goShift_X7_size rfl rfl rfl hd_X7_size ⟨Nat.le_of_ble_eq_true rfl, Nat.le_of_ble_eq_true rfl⟩) (zx_preS hG) rfl rfl hl.1 rfl (lv_room (Nat.le_of_ble_eq_true rfl)) dX7_goShift_53 ⟨Nat.le_refl _, Nat.le_refl _⟩) hG (fun H locs hG => ?_)
        refine lv_iadd hx hb dX7_goShift_56 ?_
        refine zx_putI hx hb hts hiX7 tyX7 tyX7_ok nmX7 hown hG shM_0 vc_7 21 (by decide) rfl L1 rfl (ty := .int) (tyX7_ok 21 (by decide)) rfl rfl dX7_goShift_57 (fun H locs hG => ?_)
        refine lv_aload_n hx hb dX7_goShift_60 rfl (lv_at hl 1 rfl) ?_
        refine lv_aload_n hx hb dX7_goShift_61 rfl (lv_at hl 1 rfl) ?_
        refine zx_getI hx hb hts hiX7 hown hG shM_0 vc_7 22 (by decide) rfl L2 dX7_goShift_62 ?_
        refine lv_bipush (v := (-9 : Int32)) hx hb dX7_goShift_65 (by decide) ?_
        refine lv_icmp_ne (tgt := 79) hx hb dX7_goShift_67 (by decide) (fun c_6 => ?_) (fun c_6 => ?_)
        · have hf := zx_neg c_6 hf
          refine lv_aload_n hx hb dX7_goShift_79 rfl (lv_at hl 1 rfl) ?_
          refine zx_getI hx hb hts hiX7 hown hG shM_0 vc_7 22 (by decide) rfl L2 dX7_goShift_80 ?_
          refine zx_putI hx hb hts hiX7 tyX7 tyX7_ok nmX7 hown hG shM_0 vc_7 22 (by decide) rfl L2 rfl (ty := .int) (tyX7_ok 22 (by decide)) rfl rfl dX7_goShift_83 (fun H locs hG => ?_)
          refine lv_iinc (v := (v3 + (1 : Int32))) (lv' := [(3, .int (v3 + (1 : Int32))), (4, .int r_4), (0, .ref (ad 0)), (1, .int v1), (2, .int v2)]) hx hb dX7_goShift_86 hl (k := 4) rfl (congrArg (HAdd.hAdd v3) (by decide)) (by decide) rfl (fun ls hl => ?_)
          refine lv_goto (tgt := 13) hx hb dX7_goShift_89 (by decide) ?_
          exact ih13 v1 v2 (v3 + (1 : Int32)) (zxU (zxU I_5 0 21 ((I_4 0 21) + r_5)) 0 22 ((zxU I_5 0 21 ((I_4 0 21) + r_5)) 0 22)) _ _ ls hf hG (lv_sub hl [2, 3, 4, 0] rfl)
        · have hf := zx_pos c_6 hf
          refine lv_iload hx hb dX7_goShift_70 (lv_at hl 0 rfl) ?_
          refine lv_if_eq (tgt := 79) hx hb dX7_goShift_72 (by decide) (fun c_7 => ?_) (fun c_7 => ?_)
          · have hf := zx_pos c_7 hf
            refine lv_aload_n hx hb dX7_goShift_79 rfl (lv_at hl 1 rfl) ?_
            refine zx_getI hx hb hts hiX7 hown hG shM_0 vc_7 22 (by decide) rfl L2 dX7_goShift_80 ?_
            refine zx_putI hx hb hts hiX7 tyX7 tyX7_ok nmX7 hown hG shM_0 vc_7 22 (by decide) rfl L2 rfl (ty := .int) (tyX7_ok 22 (by decide)) rfl rfl dX7_goShift_83 (fun H locs hG => ?_)
            refine lv_iinc (v := (v3 + (1 : Int32))) (lv' := [(3, .int (v3 + (1 : Int32))), (4, .int r_4), (0, .ref (ad 0)), (1, .int v1), (2, .int v2)]) hx hb dX7_goShift_86 hl (k := 4) rfl (congrArg (HAdd.hAdd v3) (by decide)) (by decide) rfl (fun ls hl => ?_)
            refine lv_goto (tgt := 13) hx hb dX7_goShift_89 (by decide) ?_
            exact ih13 v1 v2 (v3 + (1 : Int32)) (zxU (zxU I_5 0 21 ((I_4 0 21) + r_5)) 0 22 ((zxU I_5 0 21 ((I_4 0 21) + r_5)) 0 22)) _ _ ls hf hG (lv_sub hl [2, 3, 4, 0] rfl)
          · have hf := zx_neg c_7 hf
            refine lv_iload_n hx hb dX7_goShift_75 rfl (lv_at hl 4 rfl) ?_
            refine lv_goto (tgt := 83) hx hb dX7_goShift_76 (by decide) ?_
            refine zx_putI hx hb hts hiX7 tyX7 tyX7_ok nmX7 hown hG shM_0 vc_7 22 (by decide) rfl L2 rfl (ty := .int) (tyX7_ok 22 (by decide)) rfl rfl dX7_goShift_83 (fun H locs hG => ?_)
            refine lv_iinc (v := (v3 + (1 : Int32))) (lv' := [(3, .int (v3 + (1 : Int32))), (4, .int r_4), (0, .ref (ad 0)), (1, .int v1), (2, .int v2)]) hx hb dX7_goShift_86 hl (k := 4) rfl (congrArg (HAdd.hAdd v3) (by decide)) (by decide) rfl (fun ls hl => ?_)
            refine lv_goto (tgt := 13) hx hb dX7_goShift_89 (by decide) ?_
            exact ih13 v1 v2 (v3 + (1 : Int32)) (zxU (zxU I_5 0 21 ((I_4 0 21) + r_5)) 0 22 v3) _ _ ls hf hG (lv_sub hl [2, 3, 4, 0] rfl)
  exact loop13 _ x1 x2 (0 : Int32) (zxU (zxU I 0 21 (0 : Int32)) 0 22 (-9 : Int32)) _ _ ls hf hG (lv_sub hl [1, 2, 3, 0] rfl)

set_option maxHeartbeats 4000000 in
set_option maxRecDepth 100000 in
theorem mX7_refuses (l : Launch) (D : va_G) (ad : Nat → Nat) (cA : Nat → ClassId) (x1 : Int32) (x2 : Int32) (x3 : Int32) (x4 : Int32) (x5 : Int32) (x6 : Int32) (I : zxI) (r : Int32) (J : zxI) (hf : fX7_refuses x1 x2 x3 x4 x5 x6 I = some (r, J)) (sz : Nat) : Met l yX7_refuses wsX7_refuses { frames := 2, cells := 0, slots := 0, locals := 44 } (va_Pc [.ref (ad 0), .int x1, .int x2, .int x3, .int x4, .int x5, .int x6] (zxPre D shM ad cA I sz)) (va_Qi (fun (r2 : Int32) (I2 : zxI) => r2 = r ∧ I2 = J) (zxPost D shM ad cA sz) (zxA shM ad sz)) 0 0 (zxA shM ad sz) := by
  refine zx_start (by decide) rfl (Nat.le_of_ble_eq_true rfl) ?_
  intro p e s m args below meth c ls hx hb hr hts hown hlocks hml hG hl
  have hl : lv_has ls 8 [(0, .ref (ad 0)), (1, .int x1), (2, .int x2), (3, .int x3), (4, .int x4), (5, .int x5), (6, .int x6)] := hl
  have hiX7 : ∀ w ∈ wsX70, w ∈ wsX7_refuses := fun w h => List.mem_cons_of_mem _ (List.mem_append_right _ h)
  have L1 := hts (Cond.fieldLink RX7 65 "GalleryBirdsModel" "galleries" "I") (List.mem_of_getElem? (i := 1) rfl)
  unfold fX7_refuses at hf
  refine lv_iload_n hx hb dX7_refuses_0 rfl (lv_at hl 1 rfl) ?_
  obtain ⟨r_1, I_1, h_1, hf⟩ := zx_b hf
  refine zx_calli (va_runS (As := [.int x1]) (rest := []) ⟨hx, hb, hml, hown, hts⟩ (mX7_isSheet l D ad cA x1 I r_1 I_1 h_1 _) (va_cwS 1 hts gX7_refuses_X7_isSheet rfl rfl rfl hd_X7_isSheet ⟨Nat.le_of_ble_eq_true rfl, Nat.le_of_ble_eq_true rfl⟩) (zx_preS hG) rfl rfl hl.1 rfl (lv_room (Nat.le_of_ble_eq_true rfl)) dX7_refuses_1 ⟨Nat.le_refl _, Nat.le_refl _⟩) hG (fun H locs hG => ?_)
  refine lv_if_ne (tgt := 9) hx hb dX7_refuses_4 (by decide) (fun c_2 => ?_) (fun c_2 => ?_)
  · have hf := zx_neg c_2 hf
    refine lv_iload_n hx hb dX7_refuses_9 rfl (lv_at hl 2 rfl) ?_
    obtain ⟨r_3, I_3, h_3, hf⟩ := zx_b hf
    refine zx_calli (va_runS (As := [.int x2]) (rest := []) ⟨hx, hb, hml, hown, hts⟩ (mX7_isSort l D ad cA x2 I_1 r_3 I_3 h_3 _) (va_cwS 1 hts gX7_refuses_X7_isSort rfl rfl rfl hd_X7_isSort ⟨Nat.le_of_ble_eq_true rfl, Nat.le_of_ble_eq_true rfl⟩) (zx_preS hG) rfl rfl hl.1 rfl (lv_room (Nat.le_of_ble_eq_true rfl)) dX7_refuses_10 ⟨Nat.le_refl _, Nat.le_refl _⟩) hG (fun H locs hG => ?_)
    refine lv_if_eq (tgt := 32) hx hb dX7_refuses_13 (by decide) (fun c_4 => ?_) (fun c_4 => ?_)
    · have hf := zx_pos c_4 hf
      refine lv_bipush (v := (-2 : Int32)) hx hb dX7_refuses_32 (by decide) ?_
      exact zx_iret hx hb hr hlocks rfl hG hf dX7_refuses_34
    · have hf := zx_neg c_4 hf
      refine lv_iload hx hb dX7_refuses_16 (lv_at hl 4 rfl) ?_
      refine lv_iconst (v := (0 : Int32)) hx hb dX7_refuses_18 (by decide) ?_
      refine lv_iload hx hb dX7_refuses_19 (lv_at hl 5 rfl) ?_
      obtain ⟨r_5, I_5, h_5, hf⟩ := zx_b hf
      refine zx_calli (va_runS (As := [.int x4, .int (0 : Int32), .int x5]) (rest := []) ⟨hx, hb, hml, hown, hts⟩ (mX7_within l D ad cA x4 (0 : Int32) x5 I_3 r_5 I_5 h_5 _) (va_cwS 3 hts gX7_refuses_X7_within rfl rfl rfl hd_X7_within ⟨Nat.le_of_ble_eq_true rfl, Nat.le_of_ble_eq_true rfl⟩) (zx_preS hG) rfl rfl hl.1 rfl (lv_room (Nat.le_of_ble_eq_true rfl)) dX7_refuses_21 ⟨Nat.le_refl _, Nat.le_refl _⟩) hG (fun H locs hG => ?_)
      refine lv_if_eq (tgt := 32) hx hb dX7_refuses_24 (by decide) (fun c_6 => ?_) (fun c_6 => ?_)
      · have hf := zx_pos c_6 hf
        refine lv_bipush (v := (-2 : Int32)) hx hb dX7_refuses_32 (by decide) ?_
        exact zx_iret hx hb hr hlocks rfl hG hf dX7_refuses_34
      · have hf := zx_neg c_6 hf
        refine lv_iload hx hb dX7_refuses_27 (lv_at hl 6 rfl) ?_
        refine lv_if_ne (tgt := 35) hx hb dX7_refuses_29 (by decide) (fun c_7 => ?_) (fun c_7 => ?_)
        · have hf := zx_neg c_7 hf
          refine lv_aload_n hx hb dX7_refuses_35 rfl (lv_at hl 0 rfl) ?_
          refine lv_iload_n hx hb dX7_refuses_36 rfl (lv_at hl 1 rfl) ?_
          refine lv_iload_n hx hb dX7_refuses_37 rfl (lv_at hl 2 rfl) ?_
          refine lv_iload_n hx hb dX7_refuses_38 rfl (lv_at hl 3 rfl) ?_
          refine lv_iconst (v := (2 : Int32)) hx hb dX7_refuses_39 (by decide) ?_
          refine lv_iload hx hb dX7_refuses_40 (lv_at hl 4 rfl) ?_
          refine lv_imul hx hb dX7_refuses_42 ?_
          obtain ⟨r_8, I_8, h_8, hf⟩ := zx_b hf
          refine zx_calli (va_runV (As := [.int x1, .int x2, .int x3, .int ((2 : Int32) * x4)]) (rest := []) ⟨hx, hb, hml, hown, hts⟩ (mX7_against l D ad cA x1 x2 x3 ((2 : Int32) * x4) I_5 r_8 I_8 h_8 _) (cwV 4 hts gX7_refuses_X7_against rfl rfl rfl hd_X7_against ⟨Nat.le_of_ble_eq_true rfl, Nat.le_of_ble_eq_true rfl⟩) (zx_preV hG shM_0 vc_7) rfl rfl hl.1 rfl (lv_room (Nat.le_of_ble_eq_true rfl)) dX7_refuses_43 ⟨Nat.le_refl _, Nat.le_refl _⟩) hG (fun H locs hG => ?_)
          refine lv_istore (lv' := [(7, .int r_8), (0, .ref (ad 0)), (1, .int x1), (2, .int x2), (3, .int x3), (4, .int x4), (5, .int x5), (6, .int x6)]) hx hb dX7_refuses_46 hl (by decide) rfl (fun ls hl => ?_)
          refine lv_iload hx hb dX7_refuses_48 (lv_at hl 0 rfl) ?_
          refine lv_if_eq (tgt := 60) hx hb dX7_refuses_50 (by decide) (fun c_9 => ?_) (fun c_9 => ?_)
          · have hf := zx_pos c_9 hf
            refine lv_aload_n hx hb dX7_refuses_60 rfl (lv_at hl 1 rfl) ?_
            refine zx_getI hx hb hts hiX7 hown hG shM_0 vc_7 5 (by decide) rfl L1 dX7_refuses_61 ?_
            refine lv_if_ne (tgt := 72) hx hb dX7_refuses_64 (by decide) (fun c_10 => ?_) (fun c_10 => ?_)
            · have hf := zx_neg c_10 hf
              refine lv_aload_n hx hb dX7_refuses_72 rfl (lv_at hl 1 rfl) ?_
              refine lv_bipush (v := (60 : Int32)) hx hb dX7_refuses_73 (by decide) ?_
              refine lv_iload_n hx hb dX7_refuses_75 rfl (lv_at hl 2 rfl) ?_
              refine lv_imul hx hb dX7_refuses_76 ?_
              refine lv_iload_n hx hb dX7_refuses_77 rfl (lv_at hl 4 rfl) ?_
              refine lv_iadd hx hb dX7_refuses_78 ?_
              refine lv_iload hx hb dX7_refuses_79 (lv_at hl 5 rfl) ?_
              obtain ⟨r_11, I_11, h_11, hf⟩ := zx_b hf
              refine zx_calli (va_runV (As := [.int (((60 : Int32) * x1) + x3), .int x4]) (rest := []) ⟨hx, hb, hml, hown, hts⟩ (mX7_refusesPairs l D ad cA (((60 : Int32) * x1) + x3) x4 I_8 r_11 I_11 h_11 _) (cwV 2 hts gX7_refuses_X7_refusesPairs rfl rfl rfl hd_X7_refusesPairs ⟨Nat.le_of_ble_eq_true rfl, Nat.le_of_ble_eq_true rfl⟩) (zx_preV hG shM_0 vc_7) rfl rfl hl.1 rfl (lv_room (Nat.le_of_ble_eq_true rfl)) dX7_refuses_81 ⟨Nat.le_refl _, Nat.le_refl _⟩) hG (fun H locs hG => ?_)
              exact zx_iret hx hb hr hlocks rfl hG hf dX7_refuses_84
            · have hf := zx_pos c_10 hf
              refine lv_bipush (v := (-3 : Int32)) hx hb dX7_refuses_67 (by decide) ?_
              refine lv_goto (tgt := 84) hx hb dX7_refuses_69 (by decide) ?_
              exact zx_iret hx hb hr hlocks rfl hG hf dX7_refuses_84
          · have hf := zx_neg c_9 hf
            refine lv_aload_n hx hb dX7_refuses_53 rfl (lv_at hl 1 rfl) ?_
            refine lv_iload hx hb dX7_refuses_54 (lv_at hl 0 rfl) ?_
            obtain ⟨r_12, I_12, h_12, hf⟩ := zx_b hf
            refine zx_calli (va_runV (As := [.int r_8]) (rest := []) ⟨hx, hb, hml, hown, hts⟩ (mX7_fails l D ad cA r_8 I_8 r_12 I_12 h_12 _) (cwV 1 hts gX7_refuses_X7_fails rfl rfl rfl hd_X7_fails ⟨Nat.le_of_ble_eq_true rfl, Nat.le_of_ble_eq_true rfl⟩) (zx_preV hG shM_0 vc_7) rfl rfl hl.1 rfl (lv_room (Nat.le_of_ble_eq_true rfl)) dX7_refuses_56 ⟨Nat.le_refl _, Nat.le_refl _⟩) hG (fun H locs hG => ?_)
            exact zx_iret hx hb hr hlocks rfl hG hf dX7_refuses_59
        · have hf := zx_pos c_7 hf
          refine lv_bipush (v := (-2 : Int32)) hx hb dX7_refuses_32 (by decide) ?_
          exact zx_iret hx hb hr hlocks rfl hG hf dX7_refuses_34
  · have hf := zx_pos c_2 hf
    refine lv_iconst (v := (-1 : Int32)) hx hb dX7_refuses_7 (by decide) ?_
    exact zx_iret hx hb hr hlocks rfl hG hf dX7_refuses_8

set_option maxHeartbeats 4000000 in
set_option maxRecDepth 100000 in
theorem mX7_tellShift (l : Launch) (D : va_G) (ad : Nat → Nat) (cA : Nat → ClassId) (x1 : Int32) (I : zxI) (r : Int32) (J : zxI) (hf : fX7_tellShift x1 I = some (r, J)) (sz : Nat) : Met l yX7_tellShift wsX7_tellShift { frames := 1, cells := 0, slots := 0, locals := 21 } (va_Pc [.ref (ad 0), .int x1] (zxPre D shM ad cA I sz)) (va_Qi (fun (r2 : Int32) (I2 : zxI) => r2 = r ∧ I2 = J) (zxPost D shM ad cA sz) (zxA shM ad sz)) 0 0 (zxA shM ad sz) := by
  refine zx_start (by decide) rfl (Nat.le_of_ble_eq_true rfl) ?_
  intro p e s m args below meth c ls hx hb hr hts hown hlocks hml hG hl
  have hl : lv_has ls 4 [(0, .ref (ad 0)), (1, .int x1)] := hl
  have hiX7 : ∀ w ∈ wsX70, w ∈ wsX7_tellShift := fun w h => List.mem_cons_of_mem _ (List.mem_append_right _ h)
  have L1 := hts (Cond.fieldLink RX7 65 "GalleryBirdsModel" "galleries" "I") (List.mem_of_getElem? (i := 5) rfl)
  have L2 := hts (Cond.fieldLink RX7 25 "GalleryBirdsModel" "foulNow" "[I") (List.mem_of_getElem? (i := 1) rfl)
  have L3 := hts (Cond.fieldLink RX7 107 "GalleryBirdsModel" "down" "I") (List.mem_of_getElem? (i := 4) rfl)
  have L4 := hts (Cond.fieldLink RX7 169 "GalleryBirdsModel" "firstWrong" "I") (List.mem_of_getElem? (i := 3) rfl)
  have L5 := hts (Cond.fieldLink RX7 166 "GalleryBirdsModel" "dropped" "I") (List.mem_of_getElem? (i := 2) rfl)
  unfold fX7_tellShift at hf
  refine lv_iload_n hx hb dX7_tellShift_0 rfl (lv_at hl 1 rfl) ?_
  refine lv_bipush (v := (10 : Int32)) hx hb dX7_tellShift_1 (by decide) ?_
  refine lv_icmp_lt (tgt := 32) hx hb dX7_tellShift_3 (by decide) (fun c_1 => ?_) (fun c_1 => ?_)
  · have hf := zx_pos c_1 hf
    refine lv_iload_n hx hb dX7_tellShift_32 rfl (lv_at hl 1 rfl) ?_
    refine lv_iconst (v := (3 : Int32)) hx hb dX7_tellShift_33 (by decide) ?_
    refine lv_icmp_ge (tgt := 65) hx hb dX7_tellShift_34 (by decide) (fun c_2 => ?_) (fun c_2 => ?_)
    · have hf := zx_pos c_2 hf
      refine lv_iconst (v := (0 : Int32)) hx hb dX7_tellShift_65 (by decide) ?_
      refine lv_istore_n (lv' := [(2, .int (0 : Int32)), (0, .ref (ad 0)), (1, .int x1)]) hx hb dX7_tellShift_66 rfl hl (by decide) rfl (fun ls hl => ?_)
      refine lv_iconst (v := (0 : Int32)) hx hb dX7_tellShift_67 (by decide) ?_
      refine lv_istore_n (lv' := [(3, .int (0 : Int32)), (2, .int (0 : Int32)), (0, .ref (ad 0)), (1, .int x1)]) hx hb dX7_tellShift_68 rfl hl (by decide) rfl (fun ls hl => ?_)
      have loop69 : ∀ (n : Nat) (v2 : Int32) (v3 : Int32) (I : zxI) (H : Heap) (locs : List Loc) (ls : Array Slot), fX7_tellShift_L69 n v2 v3 I = some (r, J) → zxAt D shM ad cA I s sz H locs → lv_has ls 4 [(0, .ref (ad 0)), (2, .int v2), (3, .int v3)] → W p l e (headSpec wsX7_tellShift { frames := 1, cells := 0, slots := 0, locals := 21 }).room s m args below meth c H locs 0 0 (MQ below (va_Qi (fun (r2 : Int32) (I2 : zxI) => r2 = r ∧ I2 = J) (zxPost D shM ad cA sz) (zxA shM ad sz)) args s 0 0 (zxA shM ad sz)) (F0 m 69 ls []) := by
        intro n
        induction n with
        | zero =>
          intro v2 v3 I H locs ls hf hG hl
          rw [fX7_tellShift_L69] at hf
          cases hf
        | succ n69 ih69 =>
          intro v2 v3 I H locs ls hf hG hl
          rw [fX7_tellShift_L69] at hf
          refine lv_iload_n hx hb dX7_tellShift_69 rfl (lv_at hl 2 rfl) ?_
          refine lv_aload_n hx hb dX7_tellShift_70 rfl (lv_at hl 0 rfl) ?_
          refine zx_getI hx hb hts hiX7 hown hG shM_0 vc_7 5 (by decide) rfl L1 dX7_tellShift_71 ?_
          refine lv_icmp_ge (tgt := 92) hx hb dX7_tellShift_74 (by decide) (fun c_3 => ?_) (fun c_3 => ?_)
          · have hf := zx_pos c_3 hf
            refine lv_iload_n hx hb dX7_tellShift_92 rfl (lv_at hl 1 rfl) ?_
            exact zx_iret hx hb hr hlocks rfl hG hf dX7_tellShift_93
          · have hf := zx_neg c_3 hf
            refine lv_iload_n hx hb dX7_tellShift_77 rfl (lv_at hl 1 rfl) ?_
            refine lv_aload_n hx hb dX7_tellShift_78 rfl (lv_at hl 0 rfl) ?_
            refine zx_getR (d := 6) hx hb hts hiX7 hown hG shM_0 vc_7 12 (by decide) rfl L2 dX7_tellShift_79 ?_
            refine lv_iload_n hx hb dX7_tellShift_82 rfl (lv_at hl 2 rfl) ?_
            obtain ⟨g_4, hf⟩ := zx_in hf
            refine zx_ald hx hb hG shM_6 g_4 dX7_tellShift_83 ?_
            refine lv_iadd hx hb dX7_tellShift_84 ?_
            refine lv_istore_n (lv' := [(2, .int (v2 + (I 6 v3.toNatClampNeg))), (0, .ref (ad 0)), (3, .int v3)]) hx hb dX7_tellShift_85 rfl hl (by decide) rfl (fun ls hl => ?_)
            refine lv_iinc (v := (v3 + (1 : Int32))) (lv' := [(3, .int (v3 + (1 : Int32))), (2, .int (v2 + (I 6 v3.toNatClampNeg))), (0, .ref (ad 0))]) hx hb dX7_tellShift_86 hl (k := 2) rfl (congrArg (HAdd.hAdd v3) (by decide)) (by decide) rfl (fun ls hl => ?_)
            refine lv_goto (tgt := 69) hx hb dX7_tellShift_89 (by decide) ?_
            exact ih69 (v2 + (I 6 v3.toNatClampNeg)) (v3 + (1 : Int32)) I _ _ ls hf hG (lv_sub hl [2, 1, 0] rfl)
      exact loop69 _ (0 : Int32) (0 : Int32) I _ _ ls hf hG (lv_sub hl [2, 1, 0] rfl)
    · have hf := zx_neg c_2 hf
      refine lv_iload_n hx hb dX7_tellShift_37 rfl (lv_at hl 1 rfl) ?_
      refine lv_if_ne (tgt := 48) hx hb dX7_tellShift_38 (by decide) (fun c_5 => ?_) (fun c_5 => ?_)
      · have hf := zx_neg c_5 hf
        refine lv_iload_n hx hb dX7_tellShift_48 rfl (lv_at hl 1 rfl) ?_
        refine lv_iconst (v := (1 : Int32)) hx hb dX7_tellShift_49 (by decide) ?_
        refine lv_icmp_ne (tgt := 60) hx hb dX7_tellShift_50 (by decide) (fun c_6 => ?_) (fun c_6 => ?_)
        · have hf := zx_neg c_6 hf
          refine lv_aload_n hx hb dX7_tellShift_60 rfl (lv_at hl 0 rfl) ?_
          refine zx_getI hx hb hts hiX7 hown hG shM_0 vc_7 8 (by decide) rfl L3 dX7_tellShift_61 ?_
          exact zx_iret hx hb hr hlocks rfl hG hf dX7_tellShift_64
        · have hf := zx_pos c_6 hf
          refine lv_aload_n hx hb dX7_tellShift_53 rfl (lv_at hl 0 rfl) ?_
          refine zx_getI hx hb hts hiX7 hown hG shM_0 vc_7 22 (by decide) rfl L4 dX7_tellShift_54 ?_
          refine lv_goto (tgt := 64) hx hb dX7_tellShift_57 (by decide) ?_
          exact zx_iret hx hb hr hlocks rfl hG hf dX7_tellShift_64
      · have hf := zx_pos c_5 hf
        refine lv_aload_n hx hb dX7_tellShift_41 rfl (lv_at hl 0 rfl) ?_
        refine zx_getI hx hb hts hiX7 hown hG shM_0 vc_7 21 (by decide) rfl L5 dX7_tellShift_42 ?_
        refine lv_goto (tgt := 64) hx hb dX7_tellShift_45 (by decide) ?_
        exact zx_iret hx hb hr hlocks rfl hG hf dX7_tellShift_64
  · have hf := zx_neg c_1 hf
    refine lv_aload_n hx hb dX7_tellShift_6 rfl (lv_at hl 0 rfl) ?_
    refine lv_iload_n hx hb dX7_tellShift_7 rfl (lv_at hl 1 rfl) ?_
    refine lv_bipush (v := (10 : Int32)) hx hb dX7_tellShift_8 (by decide) ?_
    refine lv_isub hx hb dX7_tellShift_10 ?_
    obtain ⟨r_7, I_7, h_7, hf⟩ := zx_b hf
    refine zx_calli (va_runV (As := [.int (x1 - (10 : Int32))]) (rest := []) ⟨hx, hb, hml, hown, hts⟩ (mX7_isGallery l D ad cA (x1 - (10 : Int32)) I r_7 I_7 h_7 _) (cwV 1 hts gX7_tellShift_X7_isGallery rfl rfl rfl hd_X7_isGallery ⟨Nat.le_of_ble_eq_true rfl, Nat.le_of_ble_eq_true rfl⟩) (zx_preV hG shM_0 vc_7) rfl rfl hl.1 rfl (lv_room (Nat.le_of_ble_eq_true rfl)) dX7_tellShift_11 ⟨Nat.le_refl _, Nat.le_refl _⟩) hG (fun H locs hG => ?_)
    refine lv_if_eq (tgt := 29) hx hb dX7_tellShift_14 (by decide) (fun c_8 => ?_) (fun c_8 => ?_)
    · have hf := zx_pos c_8 hf
      refine lv_bipush (v := (-9 : Int32)) hx hb dX7_tellShift_29 (by decide) ?_
      exact zx_iret hx hb hr hlocks rfl hG hf dX7_tellShift_31
    · have hf := zx_neg c_8 hf
      refine lv_aload_n hx hb dX7_tellShift_17 rfl (lv_at hl 0 rfl) ?_
      refine zx_getR (d := 6) hx hb hts hiX7 hown hG shM_0 vc_7 12 (by decide) rfl L2 dX7_tellShift_18 ?_
      refine lv_iload_n hx hb dX7_tellShift_21 rfl (lv_at hl 1 rfl) ?_
      refine lv_bipush (v := (10 : Int32)) hx hb dX7_tellShift_22 (by decide) ?_
      refine lv_isub hx hb dX7_tellShift_24 ?_
      obtain ⟨g_9, hf⟩ := zx_in hf
      refine zx_ald hx hb hG shM_6 g_9 dX7_tellShift_25 ?_
      refine lv_goto (tgt := 31) hx hb dX7_tellShift_26 (by decide) ?_
      exact zx_iret hx hb hr hlocks rfl hG hf dX7_tellShift_31
