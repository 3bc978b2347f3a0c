/-! walks of methods (laid by wip/whole/gen.py) -/
set_option maxHeartbeats 4000000 in
set_option maxRecDepth 100000 in
theorem mX7_shift (l : Launch) (D : va_G) (ad : Nat → Nat) (cA : Nat → ClassId) (x1 : Int32) (x2 : Int32) (x3 : Int32) (x4 : Int32) (x5 : Int32) (I : zxI) (r : Int32) (J : zxI) (hf : fX7_shift x1 x2 x3 x4 x5 I = some (r, J)) (sz : Nat) : Met l yX7_shift wsX7_shift { frames := 5, cells := 0, slots := 0, locals := 110 } (va_Pc [.ref (ad 0), .int x1, .int x2, .int x3, .int x4, .int x5] (zxPre D shM ad cA I sz)) (va_Qi (fun (r2 : Int32) (I2 : zxI) => r2 = r ∧ I2 = J) (zxPost D shM ad cA sz) (zxA shM ad sz)) 0 0 (zxA shM ad sz) := by
  refine zx_start (by decide) rfl (Nat.le_of_ble_eq_true rfl) ?_
  intro p e s m args below meth c ls hx hb hr hts hown hlocks hml hG hl
  have hl : lv_has ls 8 [(0, .ref (ad 0)), (1, .int x1), (2, .int x2), (3, .int x3), (4, .int x4), (5, .int x5)] := hl
  have hiX7 : ∀ w ∈ wsX70, w ∈ wsX7_shift := fun w h => List.mem_cons_of_mem _ (List.mem_append_right _ h)
  have L1 := hts (Cond.fieldLink RX7 55 "GalleryBirdsModel" "fault" "I") (List.mem_of_getElem? (i := 1) rfl)
  unfold fX7_shift at hf
  refine lv_aload_n hx hb dX7_shift_0 rfl (lv_at hl 0 rfl) ?_
  refine lv_iconst (v := (0 : Int32)) hx hb dX7_shift_1 (by decide) ?_
  refine zx_putI hx hb hts hiX7 tyX7 tyX7_ok nmX7 hown hG shM_0 vc_7 0 (by decide) rfl L1 rfl (ty := .int) (tyX7_ok 0 (by decide)) rfl rfl dX7_shift_2 (fun H locs hG => ?_)
  refine lv_aload_n hx hb dX7_shift_5 rfl (lv_at hl 0 rfl) ?_
  refine lv_iload_n hx hb dX7_shift_6 rfl (lv_at hl 1 rfl) ?_
  refine lv_iload_n hx hb dX7_shift_7 rfl (lv_at hl 2 rfl) ?_
  refine lv_iload_n hx hb dX7_shift_8 rfl (lv_at hl 3 rfl) ?_
  refine lv_iload hx hb dX7_shift_9 (lv_at hl 4 rfl) ?_
  refine lv_bipush (v := (20 : Int32)) hx hb dX7_shift_11 (by decide) ?_
  refine lv_iload hx hb dX7_shift_13 (lv_at hl 5 rfl) ?_
  refine lv_iconst (v := (0 : Int32)) hx hb dX7_shift_15 (by decide) ?_
  refine lv_iconst (v := (3 : Int32)) hx hb dX7_shift_16 (by decide) ?_
  obtain ⟨r_1, I_1, h_1, hf⟩ := zx_b hf
  refine zx_calli (va_runS (As := [.int x5, .int (0 : Int32), .int (3 : Int32)]) (rest := [.int (20 : Int32), .int x4, .int x3, .int x2, .int x1, .ref (ad 0)]) ⟨hx, hb, hml, hown, hts⟩ (mX7_within l D ad cA x5 (0 : Int32) (3 : Int32) (zxU I 0 0 (0 : Int32)) r_1 I_1 h_1 _) (va_cwS 3 hts gX7_shift_X7_within rfl rfl rfl hd_X7_within ⟨Nat.le_of_ble_eq_true rfl, Nat.le_of_ble_eq_true rfl⟩) (zx_preS hG) rfl rfl hl.1 rfl (lv_room (Nat.le_of_ble_eq_true rfl)) dX7_shift_17 ⟨Nat.le_refl _, Nat.le_refl _⟩) hG (fun H locs hG => ?_)
  refine lv_if_ne (tgt := 35) hx hb dX7_shift_20 (by decide) (fun c_2 => ?_) (fun c_2 => ?_)
  · have hf := zx_neg c_2 hf
    refine lv_iconst (v := (1 : Int32)) hx hb dX7_shift_35 (by decide) ?_
    refine lv_goto (tgt := 40) hx hb dX7_shift_36 (by decide) ?_
    obtain ⟨r_3, I_3, h_3, hf⟩ := zx_b hf
    refine zx_calli (va_runV (As := [.int x1, .int x2, .int x3, .int x4, .int (20 : Int32), .int (1 : Int32)]) (rest := []) ⟨hx, hb, hml, hown, hts⟩ (mX7_refuses l D ad cA x1 x2 x3 x4 (20 : Int32) (1 : Int32) I_1 r_3 I_3 h_3 _) (cwV 6 hts gX7_shift_X7_refuses rfl rfl rfl hd_X7_refuses ⟨Nat.le_of_ble_eq_true rfl, Nat.le_of_ble_eq_true rfl⟩) (zx_preV hG shM_0 vc_7) rfl rfl hl.1 rfl (lv_room (Nat.le_of_ble_eq_true rfl)) dX7_shift_40 ⟨Nat.le_refl _, Nat.le_refl _⟩) hG (fun H locs hG => ?_)
    refine lv_istore (lv' := [(6, .int r_3), (0, .ref (ad 0)), (1, .int x1), (2, .int x2), (3, .int x3), (4, .int x4), (5, .int x5)]) hx hb dX7_shift_43 hl (by decide) rfl (fun ls hl => ?_)
    refine lv_iload hx hb dX7_shift_45 (lv_at hl 0 rfl) ?_
    refine lv_if_eq (tgt := 53) hx hb dX7_shift_47 (by decide) (fun c_4 => ?_) (fun c_4 => ?_)
    · have hf := zx_pos c_4 hf
      refine lv_aload_n hx hb dX7_shift_53 rfl (lv_at hl 1 rfl) ?_
      obtain ⟨I_5, h_5, hf⟩ := zx_v hf
      refine zx_callv (va_runV (As := []) (rest := []) ⟨hx, hb, hml, hown, hts⟩ (mX7_keep l D ad cA I_3 I_5 h_5 _) (cwV 0 hts gX7_shift_X7_keep rfl rfl rfl hd_X7_keep ⟨Nat.le_of_ble_eq_true rfl, Nat.le_of_ble_eq_true rfl⟩) (zx_preV hG shM_0 vc_7) rfl rfl hl.1 rfl (lv_room (Nat.le_of_ble_eq_true rfl)) dX7_shift_54 ⟨Nat.le_refl _, Nat.le_refl _⟩) hG (fun H locs hG => ?_)
      refine lv_aload_n hx hb dX7_shift_57 rfl (lv_at hl 1 rfl) ?_
      refine lv_bipush (v := (60 : Int32)) hx hb dX7_shift_58 (by decide) ?_
      refine lv_iload_n hx hb dX7_shift_60 rfl (lv_at hl 2 rfl) ?_
      refine lv_imul hx hb dX7_shift_61 ?_
      refine lv_iload_n hx hb dX7_shift_62 rfl (lv_at hl 4 rfl) ?_
      refine lv_iadd hx hb dX7_shift_63 ?_
      refine lv_iload hx hb dX7_shift_64 (lv_at hl 5 rfl) ?_
      obtain ⟨I_6, h_6, hf⟩ := zx_v hf
      refine zx_callv (va_runV (As := [.int (((60 : Int32) * x1) + x3), .int x4]) (rest := []) ⟨hx, hb, hml, hown, hts⟩ (mX7_goShift l D ad cA (((60 : Int32) * x1) + x3) x4 I_5 I_6 h_6 _) (cwV 2 hts gX7_shift_X7_goShift rfl rfl rfl hd_X7_goShift ⟨Nat.le_of_ble_eq_true rfl, Nat.le_of_ble_eq_true rfl⟩) (zx_preV hG shM_0 vc_7) rfl rfl hl.1 rfl (lv_room (Nat.le_of_ble_eq_true rfl)) dX7_shift_66 ⟨Nat.le_refl _, Nat.le_refl _⟩) hG (fun H locs hG => ?_)
      refine lv_aload_n hx hb dX7_shift_69 rfl (lv_at hl 1 rfl) ?_
      refine lv_iload hx hb dX7_shift_70 (lv_at hl 6 rfl) ?_
      obtain ⟨r_7, I_7, h_7, hf⟩ := zx_b hf
      refine zx_calli (va_runV (As := [.int x5]) (rest := []) ⟨hx, hb, hml, hown, hts⟩ (mX7_tellShift l D ad cA x5 I_6 r_7 I_7 h_7 _) (cwV 1 hts gX7_shift_X7_tellShift rfl rfl rfl hd_X7_tellShift ⟨Nat.le_of_ble_eq_true rfl, Nat.le_of_ble_eq_true rfl⟩) (zx_preV hG shM_0 vc_7) rfl rfl hl.1 rfl (lv_room (Nat.le_of_ble_eq_true rfl)) dX7_shift_72 ⟨Nat.le_refl _, Nat.le_refl _⟩) hG (fun H locs hG => ?_)
      refine lv_istore (lv' := [(7, .int r_7), (6, .int r_3), (0, .ref (ad 0)), (1, .int x1), (2, .int x2), (3, .int x3), (4, .int x4), (5, .int x5)]) hx hb dX7_shift_75 hl (by decide) rfl (fun ls hl => ?_)
      refine lv_aload_n hx hb dX7_shift_77 rfl (lv_at hl 2 rfl) ?_
      obtain ⟨I_8, h_8, hf⟩ := zx_v hf
      refine zx_callv (va_runV (As := []) (rest := []) ⟨hx, hb, hml, hown, hts⟩ (mX7_putBack l D ad cA I_7 I_8 h_8 _) (cwV 0 hts gX7_shift_X7_putBack rfl rfl rfl hd_X7_putBack ⟨Nat.le_of_ble_eq_true rfl, Nat.le_of_ble_eq_true rfl⟩) (zx_preV hG shM_0 vc_7) rfl rfl hl.1 rfl (lv_room (Nat.le_of_ble_eq_true rfl)) dX7_shift_78 ⟨Nat.le_refl _, Nat.le_refl _⟩) hG (fun H locs hG => ?_)
      refine lv_iload hx hb dX7_shift_81 (lv_at hl 0 rfl) ?_
      exact zx_iret hx hb hr hlocks rfl hG hf dX7_shift_83
    · have hf := zx_neg c_4 hf
      refine lv_iload hx hb dX7_shift_50 (lv_at hl 0 rfl) ?_
      exact zx_iret hx hb hr hlocks rfl hG hf dX7_shift_52
  · have hf := zx_pos c_2 hf
    refine lv_iload hx hb dX7_shift_23 (lv_at hl 5 rfl) ?_
    refine lv_bipush (v := (10 : Int32)) hx hb dX7_shift_25 (by decide) ?_
    refine lv_bipush (v := (15 : Int32)) hx hb dX7_shift_27 (by decide) ?_
    obtain ⟨r_9, I_9, h_9, hf⟩ := zx_b hf
    refine zx_calli (va_runS (As := [.int x5, .int (10 : Int32), .int (15 : Int32)]) (rest := [.int (20 : Int32), .int x4, .int x3, .int x2, .int x1, .ref (ad 0)]) ⟨hx, hb, hml, hown, hts⟩ (mX7_within l D ad cA x5 (10 : Int32) (15 : Int32) I_1 r_9 I_9 h_9 _) (va_cwS 3 hts gX7_shift_X7_within rfl rfl rfl hd_X7_within ⟨Nat.le_of_ble_eq_true rfl, Nat.le_of_ble_eq_true rfl⟩) (zx_preS hG) rfl rfl hl.1 rfl (lv_room (Nat.le_of_ble_eq_true rfl)) dX7_shift_29 ⟨Nat.le_refl _, Nat.le_refl _⟩) hG (fun H locs hG => ?_)
    refine lv_if_eq (tgt := 39) hx hb dX7_shift_32 (by decide) (fun c_10 => ?_) (fun c_10 => ?_)
    · have hf := zx_pos c_10 hf
      refine lv_iconst (v := (0 : Int32)) hx hb dX7_shift_39 (by decide) ?_
      obtain ⟨r_11, I_11, h_11, hf⟩ := zx_b hf
      refine zx_calli (va_runV (As := [.int x1, .int x2, .int x3, .int x4, .int (20 : Int32), .int (0 : Int32)]) (rest := []) ⟨hx, hb, hml, hown, hts⟩ (mX7_refuses l D ad cA x1 x2 x3 x4 (20 : Int32) (0 : Int32) I_9 r_11 I_11 h_11 _) (cwV 6 hts gX7_shift_X7_refuses rfl rfl rfl hd_X7_refuses ⟨Nat.le_of_ble_eq_true rfl, Nat.le_of_ble_eq_true rfl⟩) (zx_preV hG shM_0 vc_7) rfl rfl hl.1 rfl (lv_room (Nat.le_of_ble_eq_true rfl)) dX7_shift_40 ⟨Nat.le_refl _, Nat.le_refl _⟩) hG (fun H locs hG => ?_)
      refine lv_istore (lv' := [(6, .int r_11), (0, .ref (ad 0)), (1, .int x1), (2, .int x2), (3, .int x3), (4, .int x4), (5, .int x5)]) hx hb dX7_shift_43 hl (by decide) rfl (fun ls hl => ?_)
      refine lv_iload hx hb dX7_shift_45 (lv_at hl 0 rfl) ?_
      refine lv_if_eq (tgt := 53) hx hb dX7_shift_47 (by decide) (fun c_12 => ?_) (fun c_12 => ?_)
      · have hf := zx_pos c_12 hf
        refine lv_aload_n hx hb dX7_shift_53 rfl (lv_at hl 1 rfl) ?_
        obtain ⟨I_13, h_13, hf⟩ := zx_v hf
        refine zx_callv (va_runV (As := []) (rest := []) ⟨hx, hb, hml, hown, hts⟩ (mX7_keep l D ad cA I_11 I_13 h_13 _) (cwV 0 hts gX7_shift_X7_keep rfl rfl rfl hd_X7_keep ⟨Nat.le_of_ble_eq_true rfl, Nat.le_of_ble_eq_true rfl⟩) (zx_preV hG shM_0 vc_7) rfl rfl hl.1 rfl (lv_room (Nat.le_of_ble_eq_true rfl)) dX7_shift_54 ⟨Nat.le_refl _, Nat.le_refl _⟩) hG (fun H locs hG => ?_)
        refine lv_aload_n hx hb dX7_shift_57 rfl (lv_at hl 1 rfl) ?_
        refine lv_bipush (v := (60 : Int32)) hx hb dX7_shift_58 (by decide) ?_
        refine lv_iload_n hx hb dX7_shift_60 rfl (lv_at hl 2 rfl) ?_
        refine lv_imul hx hb dX7_shift_61 ?_
        refine lv_iload_n hx hb dX7_shift_62 rfl (lv_at hl 4 rfl) ?_
        refine lv_iadd hx hb dX7_shift_63 ?_
        refine lv_iload hx hb dX7_shift_64 (lv_at hl 5 rfl) ?_
        obtain ⟨I_14, h_14, hf⟩ := zx_v hf
        refine zx_callv (va_runV (As := [.int (((60 : Int32) * x1) + x3), .int x4]) (rest := []) ⟨hx, hb, hml, hown, hts⟩ (mX7_goShift l D ad cA (((60 : Int32) * x1) + x3) x4 I_13 I_14 h_14 _) (cwV 2 hts gX7_shift_X7_goShift rfl rfl rfl hd_X7_goShift ⟨Nat.le_of_ble_eq_true rfl, Nat.le_of_ble_eq_true rfl⟩) (zx_preV hG shM_0 vc_7) rfl rfl hl.1 rfl (lv_room (Nat.le_of_ble_eq_true rfl)) dX7_shift_66 ⟨Nat.le_refl _, Nat.le_refl _⟩) hG (fun H locs hG => ?_)
        refine lv_aload_n hx hb dX7_shift_69 rfl (lv_at hl 1 rfl) ?_
        refine lv_iload hx hb dX7_shift_70 (lv_at hl 6 rfl) ?_
        obtain ⟨r_15, I_15, h_15, hf⟩ := zx_b hf
        refine zx_calli (va_runV (As := [.int x5]) (rest := []) ⟨hx, hb, hml, hown, hts⟩ (mX7_tellShift l D ad cA x5 I_14 r_15 I_15 h_15 _) (cwV 1 hts gX7_shift_X7_tellShift rfl rfl rfl hd_X7_tellShift ⟨Nat.le_of_ble_eq_true rfl, Nat.le_of_ble_eq_true rfl⟩) (zx_preV hG shM_0 vc_7) rfl rfl hl.1 rfl (lv_room (Nat.le_of_ble_eq_true rfl)) dX7_shift_72 ⟨Nat.le_refl _, Nat.le_refl _⟩) hG (fun H locs hG => ?_)
        refine lv_istore (lv' := [(7, .int r_15), (6, .int r_11), (0, .ref (ad 0)), (1, .int x1), (2, .int x2), (3, .int x3), (4, .int x4), (5, .int x5)]) hx hb dX7_shift_75 hl (by decide) rfl (fun ls hl => ?_)
        refine lv_aload_n hx hb dX7_shift_77 rfl (lv_at hl 2 rfl) ?_
        obtain ⟨I_16, h_16, hf⟩ := zx_v hf
        refine zx_callv (va_runV (As := []) (rest := []) ⟨hx, hb, hml, hown, hts⟩ (mX7_putBack l D ad cA I_15 I_16 h_16 _) (cwV 0 hts gX7_shift_X7_putBack rfl rfl rfl hd_X7_putBack ⟨Nat.le_of_ble_eq_true rfl, Nat.le_of_ble_eq_true rfl⟩) (zx_preV hG shM_0 vc_7) rfl rfl hl.1 rfl (lv_room (Nat.le_of_ble_eq_true rfl)) dX7_shift_78 ⟨Nat.le_refl _, Nat.le_refl _⟩) hG (fun H locs hG => ?_)
        refine lv_iload hx hb dX7_shift_81 (lv_at hl 0 rfl) ?_
        exact zx_iret hx hb hr hlocks rfl hG hf dX7_shift_83
      · have hf := zx_neg c_12 hf
        refine lv_iload hx hb dX7_shift_50 (lv_at hl 0 rfl) ?_
        exact zx_iret hx hb hr hlocks rfl hG hf dX7_shift_52
    · have hf := zx_neg c_10 hf
      refine lv_iconst (v := (1 : Int32)) hx hb dX7_shift_35 (by decide) ?_
      refine lv_goto (tgt := 40) hx hb dX7_shift_36 (by decide) ?_
      obtain ⟨r_17, I_17, h_17, hf⟩ := zx_b hf
      refine zx_calli (va_runV (As := [.int x1, .int x2, .int x3, .int x4, .int (20 : Int32), .int (1 : Int32)]) (rest := []) ⟨hx, hb, hml, hown, hts⟩ (mX7_refuses l D ad cA x1 x2 x3 x4 (20 : Int32) (1 : Int32) I_9 r_17 I_17 h_17 _) (cwV 6 hts gX7_shift_X7_refuses rfl rfl rfl hd_X7_refuses ⟨Nat.le_of_ble_eq_true rfl, Nat.le_of_ble_eq_true rfl⟩) (zx_preV hG shM_0 vc_7) rfl rfl hl.1 rfl (lv_room (Nat.le_of_ble_eq_true rfl)) dX7_shift_40 ⟨Nat.le_refl _, Nat.le_refl _⟩) hG (fun H locs hG => ?_)
      refine lv_istore (lv' := [(6, .int r_17), (0, .ref (ad 0)), (1, .int x1), (2, .int x2), (3, .int x3), (4, .int x4), (5, .int x5)]) hx hb dX7_shift_43 hl (by decide) rfl (fun ls hl => ?_)
      refine lv_iload hx hb dX7_shift_45 (lv_at hl 0 rfl) ?_
      refine lv_if_eq (tgt := 53) hx hb dX7_shift_47 (by decide) (fun c_18 => ?_) (fun c_18 => ?_)
      · have hf := zx_pos c_18 hf
        refine lv_aload_n hx hb dX7_shift_53 rfl (lv_at hl 1 rfl) ?_
        obtain ⟨I_19, h_19, hf⟩ := zx_v hf
        refine zx_callv (va_runV (As := []) (rest := []) ⟨hx, hb, hml, hown, hts⟩ (mX7_keep l D ad cA I_17 I_19 h_19 _) (cwV 0 hts gX7_shift_X7_keep rfl rfl rfl hd_X7_keep ⟨Nat.le_of_ble_eq_true rfl, Nat.le_of_ble_eq_true rfl⟩) (zx_preV hG shM_0 vc_7) rfl rfl hl.1 rfl (lv_room (Nat.le_of_ble_eq_true rfl)) dX7_shift_54 ⟨Nat.le_refl _, Nat.le_refl _⟩) hG (fun H locs hG => ?_)
        refine lv_aload_n hx hb dX7_shift_57 rfl (lv_at hl 1 rfl) ?_
        refine lv_bipush (v := (60 : Int32)) hx hb dX7_shift_58 (by decide) ?_
        refine lv_iload_n hx hb dX7_shift_60 rfl (lv_at hl 2 rfl) ?_
        refine lv_imul hx hb dX7_shift_61 ?_
        refine lv_iload_n hx hb dX7_shift_62 rfl (lv_at hl 4 rfl) ?_
        refine lv_iadd hx hb dX7_shift_63 ?_
        refine lv_iload hx hb dX7_shift_64 (lv_at hl 5 rfl) ?_
        obtain ⟨I_20, h_20, hf⟩ := zx_v hf
        refine zx_callv (va_runV (As := [.int (((60 : Int32) * x1) + x3), .int x4]) (rest := []) ⟨hx, hb, hml, hown, hts⟩ (mX7_goShift l D ad cA (((60 : Int32) * x1) + x3) x4 I_19 I_20 h_20 _) (cwV 2 hts gX7_shift_X7_goShift rfl rfl rfl hd_X7_goShift ⟨Nat.le_of_ble_eq_true rfl, Nat.le_of_ble_eq_true rfl⟩) (zx_preV hG shM_0 vc_7) rfl rfl hl.1 rfl (lv_room (Nat.le_of_ble_eq_true rfl)) dX7_shift_66 ⟨Nat.le_refl _, Nat.le_refl _⟩) hG (fun H locs hG => ?_)
        refine lv_aload_n hx hb dX7_shift_69 rfl (lv_at hl 1 rfl) ?_
        refine lv_iload hx hb dX7_shift_70 (lv_at hl 6 rfl) ?_
        obtain ⟨r_21, I_21, h_21, hf⟩ := zx_b hf
        refine zx_calli (va_runV (As := [.int x5]) (rest := []) ⟨hx, hb, hml, hown, hts⟩ (mX7_tellShift l D ad cA x5 I_20 r_21 I_21 h_21 _) (cwV 1 hts gX7_shift_X7_tellShift rfl rfl rfl hd_X7_tellShift ⟨Nat.le_of_ble_eq_true rfl, Nat.le_of_ble_eq_true rfl⟩) (zx_preV hG shM_0 vc_7) rfl rfl hl.1 rfl (lv_room (Nat.le_of_ble_eq_true rfl)) dX7_shift_72 ⟨Nat.le_refl _, Nat.le_refl _⟩) hG (fun H locs hG => ?_)
        refine lv_istore (lv' := [(7, .int r_21), (6, .int r_17), (0, .ref (ad 0)), (1, .int x1), (2, .int x2), (3, .int x3), (4, .int x4), (5, .int x5)]) hx hb dX7_shift_75 hl (by decide) rfl (fun ls hl => ?_)
        refine lv_aload_n hx hb dX7_shift_77 rfl (lv_at hl 2 rfl) ?_
        obtain ⟨I_22, h_22, hf⟩ := zx_v hf
        refine zx_callv (va_runV (As := []) (rest := []) ⟨hx, hb, hml, hown, hts⟩ (mX7_putBack l D ad cA I_21 I_22 h_22 _) (cwV 0 hts gX7_shift_X7_putBack rfl rfl rfl hd_X7_putBack ⟨Nat.le_of_ble_eq_true rfl, Nat.le_of_ble_eq_true rfl⟩) (zx_preV hG shM_0 vc_7) rfl rfl hl.1 rfl (lv_room (Nat.le_of_ble_eq_true rfl)) dX7_shift_78 ⟨Nat.le_refl _, Nat.le_refl _⟩) hG (fun H locs hG => ?_)
        refine lv_iload hx hb dX7_shift_81 (lv_at hl 0 rfl) ?_
        exact zx_iret hx hb hr hlocks rfl hG hf dX7_shift_83
      · have hf := zx_neg c_18 hf
        refine lv_iload hx hb dX7_shift_50 (lv_at hl 0 rfl) ?_
        exact zx_iret hx hb hr hlocks rfl hG hf dX7_shift_52

set_option maxHeartbeats 4000000 in
set_option maxRecDepth 100000 in
theorem mX7_orderOf (l : Launch) (D : va_G) (ad : Nat → Nat) (cA : Nat → ClassId) (x1 : Int32) (x2 : Int32) (I : zxI) (J : zxI) (hf : fX7_orderOf x1 x2 I = some J) (sz : Nat) : Met l yX7_orderOf wsX7_orderOf { frames := 1, cells := 0, slots := 0, locals := 21 } (va_Pc [.ref (ad 0), .int x1, .int x2] (zxPre D shM ad cA I sz)) (va_Qv (fun (I2 : zxI) => I2 = J) (zxPost D shM ad cA sz) (zxA shM ad sz)) 0 0 (zxA shM ad sz) := by
  refine zx_start (by decide) rfl (Nat.le_of_ble_eq_true rfl) ?_
  intro p e s m args below meth c ls hx hb hr hts hown hlocks hml hG hl
  have hl : lv_has ls 9 [(0, .ref (ad 0)), (1, .int x1), (2, .int x2)] := hl
  have hiX7 : ∀ w ∈ wsX70, w ∈ wsX7_orderOf := fun w h => List.mem_cons_of_mem _ (List.mem_append_right _ h)
  have L1 := hts (Cond.fieldLink RX7 40 "GalleryBirdsModel" "row" "[I") (List.mem_of_getElem? (i := 1) rfl)
  unfold fX7_orderOf at hf
  refine lv_iload_n hx hb dX7_orderOf_0 rfl (lv_at hl 1 rfl) ?_
  refine lv_istore_n (lv' := [(3, .int x1), (0, .ref (ad 0)), (1, .int x1), (2, .int x2)]) hx hb dX7_orderOf_1 rfl hl (by decide) rfl (fun ls hl => ?_)
  refine lv_iconst (v := (1 : Int32)) hx hb dX7_orderOf_2 (by decide) ?_
  refine lv_istore (lv' := [(4, .int (1 : Int32)), (3, .int x1), (0, .ref (ad 0)), (1, .int x1), (2, .int x2)]) hx hb dX7_orderOf_3 hl (by decide) rfl (fun ls hl => ?_)
  refine lv_iconst (v := (2 : Int32)) hx hb dX7_orderOf_5 (by decide) ?_
  refine lv_istore (lv' := [(5, .int (2 : Int32)), (4, .int (1 : Int32)), (3, .int x1), (0, .ref (ad 0)), (1, .int x1), (2, .int x2)]) hx hb dX7_orderOf_6 hl (by decide) rfl (fun ls hl => ?_)
  have loop8 : ∀ (n : Nat) (v2 : Int32) (v3 : Int32) (v4 : Int32) (v5 : Int32) (I : zxI) (H : Heap) (locs : List Loc) (ls : Array Slot), fX7_orderOf_L8 n v2 v3 v4 v5 I = some J → zxAt D shM ad cA I s sz H locs → lv_has ls 9 [(0, .ref (ad 0)), (2, .int v2), (3, .int v3), (4, .int v4), (5, .int v5)] → W p l e (headSpec wsX7_orderOf { frames := 1, cells := 0, slots := 0, locals := 21 }).room s m args below meth c H locs 0 0 (MQ below (va_Qv (fun (I2 : zxI) => I2 = J) (zxPost D shM ad cA sz) (zxA shM ad sz)) args s 0 0 (zxA shM ad sz)) (F0 m 8 ls []) := by
    intro n
    induction n with
    | zero =>
      intro v2 v3 v4 v5 I H locs ls hf hG hl
      rw [fX7_orderOf_L8] at hf
      cases hf
    | succ n8 ih8 =>
      intro v2 v3 v4 v5 I H locs ls hf hG hl
      rw [fX7_orderOf_L8] at hf
      refine lv_iload hx hb dX7_orderOf_8 (lv_at hl 4 rfl) ?_
      refine lv_iload_n hx hb dX7_orderOf_10 rfl (lv_at hl 1 rfl) ?_
      refine lv_icmp_ge (tgt := 27) hx hb dX7_orderOf_11 (by decide) (fun c_1 => ?_) (fun c_1 => ?_)
      · have hf := zx_pos c_1 hf
        refine lv_iconst (v := (0 : Int32)) hx hb dX7_orderOf_27 (by decide) ?_
        refine lv_istore (lv' := [(5, .int (0 : Int32)), (0, .ref (ad 0)), (2, .int v2), (3, .int v3), (4, .int v4)]) hx hb dX7_orderOf_28 hl (by decide) rfl (fun ls hl => ?_)
        refine lv_iconst (v := (0 : Int32)) hx hb dX7_orderOf_30 (by decide) ?_
        refine lv_istore (lv' := [(6, .int (0 : Int32)), (5, .int (0 : Int32)), (0, .ref (ad 0)), (2, .int v2), (3, .int v3), (4, .int v4)]) hx hb dX7_orderOf_31 hl (by decide) rfl (fun ls hl => ?_)
        have loop33 : ∀ (n : Nat) (v2 : Int32) (v3 : Int32) (v4 : Int32) (v5 : Int32) (v6 : Int32) (I : zxI) (H : Heap) (locs : List Loc) (ls : Array Slot), fX7_orderOf_L33 n v2 v3 v4 v5 v6 I = some J → zxAt D shM ad cA I s sz H locs → lv_has ls 9 [(0, .ref (ad 0)), (2, .int v2), (3, .int v3), (4, .int v4), (5, .int v5), (6, .int v6)] → W p l e (headSpec wsX7_orderOf { frames := 1, cells := 0, slots := 0, locals := 21 }).room s m args below meth c H locs 0 0 (MQ below (va_Qv (fun (I2 : zxI) => I2 = J) (zxPost D shM ad cA sz) (zxA shM ad sz)) args s 0 0 (zxA shM ad sz)) (F0 m 33 ls []) := by
          intro n
          induction n with
          | zero =>
            intro v2 v3 v4 v5 v6 I H locs ls hf hG hl
            rw [fX7_orderOf_L33] at hf
            cases hf
          | succ n33 ih33 =>
            intro v2 v3 v4 v5 v6 I H locs ls hf hG hl
            rw [fX7_orderOf_L33] at hf
            refine lv_iload hx hb dX7_orderOf_33 (lv_at hl 5 rfl) ?_
            refine lv_iload_n hx hb dX7_orderOf_35 rfl (lv_at hl 1 rfl) ?_
            refine lv_icmp_ge (tgt := 143) hx hb dX7_orderOf_36 (by decide) (fun c_2 => ?_) (fun c_2 => ?_)
            · have hf := zx_pos c_2 hf
              exact zx_vret hx hb hr hlocks hG hf dX7_orderOf_143
            · have hf := zx_neg c_2 hf
              refine lv_iload_n hx hb dX7_orderOf_39 rfl (lv_at hl 2 rfl) ?_
              refine lv_iload hx hb dX7_orderOf_40 (lv_at hl 3 rfl) ?_
              obtain ⟨g_3, hf⟩ := zx_gd hf
              refine lv_idiv hx hb dX7_orderOf_42 g_3 ?_
              refine lv_istore (lv' := [(7, .int (v3 / v4)), (0, .ref (ad 0)), (2, .int v2), (3, .int v3), (4, .int v4), (5, .int v5), (6, .int v6)]) hx hb dX7_orderOf_43 hl (by decide) rfl (fun ls hl => ?_)
              refine lv_iload_n hx hb dX7_orderOf_45 rfl (lv_at hl 3 rfl) ?_
              refine lv_iload hx hb dX7_orderOf_46 (lv_at hl 4 rfl) ?_
              refine lv_irem hx hb dX7_orderOf_48 g_3 ?_
              refine lv_istore_n (lv' := [(3, .int (v3 - v3 / v4 * v4)), (7, .int (v3 / v4)), (0, .ref (ad 0)), (2, .int v2), (4, .int v4), (5, .int v5), (6, .int v6)]) hx hb dX7_orderOf_49 rfl hl (by decide) rfl (fun ls hl => ?_)
              refine lv_iconst (v := (0 : Int32)) hx hb dX7_orderOf_50 (by decide) ?_
              refine lv_istore (lv' := [(8, .int (0 : Int32)), (3, .int (v3 - v3 / v4 * v4)), (7, .int (v3 / v4)), (0, .ref (ad 0)), (2, .int v2), (4, .int v4), (5, .int v5), (6, .int v6)]) hx hb dX7_orderOf_51 hl (by decide) rfl (fun ls hl => ?_)
              have loop53 : ∀ (n : Nat) (v2 : Int32) (v3 : Int32) (v4 : Int32) (v5 : Int32) (v6 : Int32) (v7 : Int32) (v8 : Int32) (I : zxI) (H : Heap) (locs : List Loc) (ls : Array Slot), fX7_orderOf_L53 (fun a0 a1 a2 a3 a4 I => (fX7_orderOf_L33 n33 a0 a1 a2 a3 a4 I)) n v2 v3 v4 v5 v6 v7 v8 I = some J → zxAt D shM ad cA I s sz H locs → lv_has ls 9 [(0, .ref (ad 0)), (2, .int v2), (3, .int v3), (4, .int v4), (5, .int v5), (6, .int v6), (7, .int v7), (8, .int v8)] → W p l e (headSpec wsX7_orderOf { frames := 1, cells := 0, slots := 0, locals := 21 }).room s m args below meth c H locs 0 0 (MQ below (va_Qv (fun (I2 : zxI) => I2 = J) (zxPost D shM ad cA sz) (zxA shM ad sz)) args s 0 0 (zxA shM ad sz)) (F0 m 53 ls []) := by
                intro n
                induction n with
                | zero =>
                  intro v2 v3 v4 v5 v6 v7 v8 I H locs ls hf hG hl
                  rw [fX7_orderOf_L53] at hf
                  cases hf
                | succ n53 ih53 =>
                  intro v2 v3 v4 v5 v6 v7 v8 I H locs ls hf hG hl
                  rw [fX7_orderOf_L53] at hf
                  refine lv_iload hx hb dX7_orderOf_53 (lv_at hl 4 rfl) ?_
                  refine lv_iload hx hb dX7_orderOf_55 (lv_at hl 7 rfl) ?_
                  obtain ⟨r_5, I_5, h_5, hf⟩ := zx_b hf
                  refine zx_calli (va_runS (As := [.int v5, .int v8]) (rest := []) ⟨hx, hb, hml, hown, hts⟩ (mX7_isOf l D ad cA v5 v8 I r_5 I_5 h_5 _) (va_cwS 2 hts gX7_orderOf_X7_isOf rfl rfl rfl hd_X7_isOf ⟨Nat.le_of_ble_eq_true rfl, Nat.le_of_ble_eq_true rfl⟩) (zx_preS hG) rfl rfl hl.1 rfl (lv_room (Nat.le_of_ble_eq_true rfl)) dX7_orderOf_57 ⟨Nat.le_refl _, Nat.le_refl _⟩) hG (fun H locs hG => ?_)
                  refine lv_if_ne (tgt := 68) hx hb dX7_orderOf_60 (by decide) (fun c_6 => ?_) (fun c_6 => ?_)
                  · have hf := zx_neg c_6 hf
                    refine lv_iload hx hb dX7_orderOf_68 (lv_at hl 6 rfl) ?_
                    refine lv_iload hx hb dX7_orderOf_70 (lv_at hl 4 rfl) ?_
                    refine lv_iload hx hb dX7_orderOf_72 (lv_at hl 7 rfl) ?_
                    obtain ⟨r_7, I_7, h_7, hf⟩ := zx_b hf
                    refine zx_calli (va_runS (As := [.int v5, .int v8]) (rest := [.int v7]) ⟨hx, hb, hml, hown, hts⟩ (mX7_isOf l D ad cA v5 v8 I_5 r_7 I_7 h_7 _) (va_cwS 2 hts gX7_orderOf_X7_isOf rfl rfl rfl hd_X7_isOf ⟨Nat.le_of_ble_eq_true rfl, Nat.le_of_ble_eq_true rfl⟩) (zx_preS hG) rfl rfl hl.1 rfl (lv_room (Nat.le_of_ble_eq_true rfl)) dX7_orderOf_74 ⟨Nat.le_refl _, Nat.le_refl _⟩) hG (fun H locs hG => ?_)
                    refine lv_if_eq (tgt := 84) hx hb dX7_orderOf_77 (by decide) (fun c_8 => ?_) (fun c_8 => ?_)
                    · have hf := zx_pos c_8 hf
                      refine lv_iconst (v := (1 : Int32)) hx hb dX7_orderOf_84 (by decide) ?_
                      refine lv_isub hx hb dX7_orderOf_85 ?_
                      refine lv_istore (lv' := [(7, .int (v7 - (1 : Int32))), (0, .ref (ad 0)), (2, .int v2), (3, .int v3), (4, .int v4), (5, .int v5), (6, .int v6), (8, .int v8)]) hx hb dX7_orderOf_86 hl (by decide) rfl (fun ls hl => ?_)
                      refine lv_iinc (v := (v8 + (1 : Int32))) (lv' := [(8, .int (v8 + (1 : Int32))), (7, .int (v7 - (1 : Int32))), (0, .ref (ad 0)), (2, .int v2), (3, .int v3), (4, .int v4), (5, .int v5), (6, .int v6)]) hx hb dX7_orderOf_88 hl (k := 7) rfl (congrArg (HAdd.hAdd v8) (by decide)) (by decide) rfl (fun ls hl => ?_)
                      refine lv_goto (tgt := 53) hx hb dX7_orderOf_91 (by decide) ?_
                      exact ih53 v2 v3 v4 v5 v6 (v7 - (1 : Int32)) (v8 + (1 : Int32)) I_7 _ _ ls hf hG (lv_sub hl [2, 3, 4, 5, 6, 7, 1, 0] rfl)
                    · have hf := zx_neg c_8 hf
                      refine lv_iconst (v := (0 : Int32)) hx hb dX7_orderOf_80 (by decide) ?_
                      refine lv_goto (tgt := 85) hx hb dX7_orderOf_81 (by decide) ?_
                      refine lv_isub hx hb dX7_orderOf_85 ?_
                      refine lv_istore (lv' := [(7, .int (v7 - (0 : Int32))), (0, .ref (ad 0)), (2, .int v2), (3, .int v3), (4, .int v4), (5, .int v5), (6, .int v6), (8, .int v8)]) hx hb dX7_orderOf_86 hl (by decide) rfl (fun ls hl => ?_)
                      refine lv_iinc (v := (v8 + (1 : Int32))) (lv' := [(8, .int (v8 + (1 : Int32))), (7, .int (v7 - (0 : Int32))), (0, .ref (ad 0)), (2, .int v2), (3, .int v3), (4, .int v4), (5, .int v5), (6, .int v6)]) hx hb dX7_orderOf_88 hl (k := 7) rfl (congrArg (HAdd.hAdd v8) (by decide)) (by decide) rfl (fun ls hl => ?_)
                      refine lv_goto (tgt := 53) hx hb dX7_orderOf_91 (by decide) ?_
                      exact ih53 v2 v3 v4 v5 v6 (v7 - (0 : Int32)) (v8 + (1 : Int32)) I_7 _ _ ls hf hG (lv_sub hl [2, 3, 4, 5, 6, 7, 1, 0] rfl)
                  · have hf := zx_pos c_6 hf
                    refine lv_iload hx hb dX7_orderOf_63 (lv_at hl 6 rfl) ?_
                    refine lv_if_le (tgt := 94) hx hb dX7_orderOf_65 (by decide) (fun c_9 => ?_) (fun c_9 => ?_)
                    · have hf := zx_pos c_9 hf
                      refine lv_aload_n hx hb dX7_orderOf_94 rfl (lv_at hl 0 rfl) ?_
                      refine zx_getR (d := 11) hx hb hts hiX7 hown hG shM_0 vc_7 23 (by decide) rfl L1 dX7_orderOf_95 ?_
                      refine lv_iload hx hb dX7_orderOf_98 (lv_at hl 5 rfl) ?_
                      refine lv_iload hx hb dX7_orderOf_100 (lv_at hl 7 rfl) ?_
                      obtain ⟨g_10, hf⟩ := zx_in hf
                      refine zx_ast hx hb hG shM_11 g_10 dX7_orderOf_102 (fun H locs hG => ?_)
                      refine lv_iload hx hb dX7_orderOf_103 (lv_at hl 4 rfl) ?_
                      refine lv_iconst (v := (1 : Int32)) hx hb dX7_orderOf_105 (by decide) ?_
                      refine lv_iload hx hb dX7_orderOf_106 (lv_at hl 7 rfl) ?_
                      refine lv_ishl hx hb dX7_orderOf_108 ?_
                      refine lv_ior hx hb dX7_orderOf_109 ?_
                      refine lv_istore (lv' := [(5, .int (v5 ||| ((1 : Int32) <<< (v8 &&& 31)))), (0, .ref (ad 0)), (2, .int v2), (3, .int v3), (4, .int v4), (6, .int v6), (7, .int v7), (8, .int v8)]) hx hb dX7_orderOf_110 hl (by decide) rfl (fun ls hl => ?_)
                      refine lv_iload_n hx hb dX7_orderOf_112 rfl (lv_at hl 2 rfl) ?_
                      refine lv_iload hx hb dX7_orderOf_113 (lv_at hl 5 rfl) ?_
                      refine lv_isub hx hb dX7_orderOf_115 ?_
                      refine lv_iconst (v := (1 : Int32)) hx hb dX7_orderOf_116 (by decide) ?_
                      refine lv_isub hx hb dX7_orderOf_117 ?_
                      refine lv_iconst (v := (1 : Int32)) hx hb dX7_orderOf_118 (by decide) ?_
                      refine lv_icmp_le (tgt := 134) hx hb dX7_orderOf_119 (by decide) (fun c_11 => ?_) (fun c_11 => ?_)
                      · have hf := zx_pos c_11 hf
                        refine lv_iconst (v := (1 : Int32)) hx hb dX7_orderOf_134 (by decide) ?_
                        refine lv_istore (lv' := [(4, .int (1 : Int32)), (5, .int (v5 ||| ((1 : Int32) <<< (v8 &&& 31)))), (0, .ref (ad 0)), (2, .int v2), (3, .int v3), (6, .int v6), (7, .int v7), (8, .int v8)]) hx hb dX7_orderOf_135 hl (by decide) rfl (fun ls hl => ?_)
                        refine lv_iinc (v := (v6 + (1 : Int32))) (lv' := [(6, .int (v6 + (1 : Int32))), (4, .int (1 : Int32)), (5, .int (v5 ||| ((1 : Int32) <<< (v8 &&& 31)))), (0, .ref (ad 0)), (2, .int v2), (3, .int v3), (7, .int v7), (8, .int v8)]) hx hb dX7_orderOf_137 hl (k := 5) rfl (congrArg (HAdd.hAdd v6) (by decide)) (by decide) rfl (fun ls hl => ?_)
                        refine lv_goto (tgt := 33) hx hb dX7_orderOf_140 (by decide) ?_
                        exact ih33 v2 v3 (1 : Int32) (v5 ||| ((1 : Int32) <<< (v8 &&& 31))) (v6 + (1 : Int32)) (zxU I_5 11 v6.toNatClampNeg v8) _ _ ls hf hG (lv_sub hl [3, 4, 5, 1, 2, 0] rfl)
                      · have hf := zx_neg c_11 hf
                        refine lv_iload hx hb dX7_orderOf_122 (lv_at hl 4 rfl) ?_
                        refine lv_iload_n hx hb dX7_orderOf_124 rfl (lv_at hl 2 rfl) ?_
                        refine lv_iload hx hb dX7_orderOf_125 (lv_at hl 5 rfl) ?_
                        refine lv_isub hx hb dX7_orderOf_127 ?_
                        refine lv_iconst (v := (1 : Int32)) hx hb dX7_orderOf_128 (by decide) ?_
                        refine lv_isub hx hb dX7_orderOf_129 ?_
                        obtain ⟨g_12, hf⟩ := zx_gd hf
                        refine lv_idiv hx hb dX7_orderOf_130 g_12 ?_
                        refine lv_goto (tgt := 135) hx hb dX7_orderOf_131 (by decide) ?_
                        refine lv_istore (lv' := [(4, .int (v4 / ((v2 - v6) - (1 : Int32)))), (5, .int (v5 ||| ((1 : Int32) <<< (v8 &&& 31)))), (0, .ref (ad 0)), (2, .int v2), (3, .int v3), (6, .int v6), (7, .int v7), (8, .int v8)]) hx hb dX7_orderOf_135 hl (by decide) rfl (fun ls hl => ?_)
                        refine lv_iinc (v := (v6 + (1 : Int32))) (lv' := [(6, .int (v6 + (1 : Int32))), (4, .int (v4 / ((v2 - v6) - (1 : Int32)))), (5, .int (v5 ||| ((1 : Int32) <<< (v8 &&& 31)))), (0, .ref (ad 0)), (2, .int v2), (3, .int v3), (7, .int v7), (8, .int v8)]) hx hb dX7_orderOf_137 hl (k := 5) rfl (congrArg (HAdd.hAdd v6) (by decide)) (by decide) rfl (fun ls hl => ?_)
                        refine lv_goto (tgt := 33) hx hb dX7_orderOf_140 (by decide) ?_
                        exact ih33 v2 v3 (v4 / ((v2 - v6) - (1 : Int32))) (v5 ||| ((1 : Int32) <<< (v8 &&& 31))) (v6 + (1 : Int32)) (zxU I_5 11 v6.toNatClampNeg v8) _ _ ls hf hG (lv_sub hl [3, 4, 5, 1, 2, 0] rfl)
                    · have hf := zx_neg c_9 hf
                      refine lv_iload hx hb dX7_orderOf_68 (lv_at hl 6 rfl) ?_
                      refine lv_iload hx hb dX7_orderOf_70 (lv_at hl 4 rfl) ?_
                      refine lv_iload hx hb dX7_orderOf_72 (lv_at hl 7 rfl) ?_
                      obtain ⟨r_13, I_13, h_13, hf⟩ := zx_b hf
                      refine zx_calli (va_runS (As := [.int v5, .int v8]) (rest := [.int v7]) ⟨hx, hb, hml, hown, hts⟩ (mX7_isOf l D ad cA v5 v8 I_5 r_13 I_13 h_13 _) (va_cwS 2 hts gX7_orderOf_X7_isOf rfl rfl rfl hd_X7_isOf ⟨Nat.le_of_ble_eq_true rfl, Nat.le_of_ble_eq_true rfl⟩) (zx_preS hG) rfl rfl hl.1 rfl (lv_room (Nat.le_of_ble_eq_true rfl)) dX7_orderOf_74 ⟨Nat.le_refl _, Nat.le_refl _⟩) hG (fun H locs hG => ?_)
                      refine lv_if_eq (tgt := 84) hx hb dX7_orderOf_77 (by decide) (fun c_14 => ?_) (fun c_14 => ?_)
                      · have hf := zx_pos c_14 hf
                        refine lv_iconst (v := (1 : Int32)) hx hb dX7_orderOf_84 (by decide) ?_
                        refine lv_isub hx hb dX7_orderOf_85 ?_
                        refine lv_istore (lv' := [(7, .int (v7 - (1 : Int32))), (0, .ref (ad 0)), (2, .int v2), (3, .int v3), (4, .int v4), (5, .int v5), (6, .int v6), (8, .int v8)]) hx hb dX7_orderOf_86 hl (by decide) rfl (fun ls hl => ?_)
                        refine lv_iinc (v := (v8 + (1 : Int32))) (lv' := [(8, .int (v8 + (1 : Int32))), (7, .int (v7 - (1 : Int32))), (0, .ref (ad 0)), (2, .int v2), (3, .int v3), (4, .int v4), (5, .int v5), (6, .int v6)]) hx hb dX7_orderOf_88 hl (k := 7) rfl (congrArg (HAdd.hAdd v8) (by decide)) (by decide) rfl (fun ls hl => ?_)
                        refine lv_goto (tgt := 53) hx hb dX7_orderOf_91 (by decide) ?_
                        exact ih53 v2 v3 v4 v5 v6 (v7 - (1 : Int32)) (v8 + (1 : Int32)) I_13 _ _ ls hf hG (lv_sub hl [2, 3, 4, 5, 6, 7, 1, 0] rfl)
                      · have hf := zx_neg c_14 hf
                        refine lv_iconst (v := (0 : Int32)) hx hb dX7_orderOf_80 (by decide) ?_
                        refine lv_goto (tgt := 85) hx hb dX7_orderOf_81 (by decide) ?_
                        refine lv_isub hx hb dX7_orderOf_85 ?_
                        refine lv_istore (lv' := [(7, .int (v7 - (0 : Int32))), (0, .ref (ad 0)), (2, .int v2), (3, .int v3), (4, .int v4), (5, .int v5), (6, .int v6), (8, .int v8)]) hx hb dX7_orderOf_86 hl (by decide) rfl (fun ls hl => ?_)
                        refine lv_iinc (v := (v8 + (1 : Int32))) (lv' := [(8, .int (v8 + (1 : Int32))), (7, .int (v7 - (0 : Int32))), (0, .ref (ad 0)), (2, .int v2), (3, .int v3), (4, .int v4), (5, .int v5), (6, .int v6)]) hx hb dX7_orderOf_88 hl (k := 7) rfl (congrArg (HAdd.hAdd v8) (by decide)) (by decide) rfl (fun ls hl => ?_)
                        refine lv_goto (tgt := 53) hx hb dX7_orderOf_91 (by decide) ?_
                        exact ih53 v2 v3 v4 v5 v6 (v7 - (0 : Int32)) (v8 + (1 : Int32)) I_13 _ _ ls hf hG (lv_sub hl [2, 3, 4, 5, 6, 7, 1, 0] rfl)
              exact loop53 _ v2 (v3 - v3 / v4 * v4) v4 v5 v6 (v3 / v4) (0 : Int32) I _ _ ls hf hG (lv_sub hl [3, 4, 1, 5, 6, 7, 2, 0] rfl)
        exact loop33 _ v2 v3 v4 (0 : Int32) (0 : Int32) I _ _ ls hf hG (lv_sub hl [2, 3, 4, 5, 1, 0] rfl)
      · have hf := zx_neg c_1 hf
        refine lv_iload hx hb dX7_orderOf_14 (lv_at hl 3 rfl) ?_
        refine lv_iload hx hb dX7_orderOf_16 (lv_at hl 4 rfl) ?_
        refine lv_imul hx hb dX7_orderOf_18 ?_
        refine lv_istore (lv' := [(4, .int (v4 * v5)), (0, .ref (ad 0)), (2, .int v2), (3, .int v3), (5, .int v5)]) hx hb dX7_orderOf_19 hl (by decide) rfl (fun ls hl => ?_)
        refine lv_iinc (v := (v5 + (1 : Int32))) (lv' := [(5, .int (v5 + (1 : Int32))), (4, .int (v4 * v5)), (0, .ref (ad 0)), (2, .int v2), (3, .int v3)]) hx hb dX7_orderOf_21 hl (k := 4) rfl (congrArg (HAdd.hAdd v5) (by decide)) (by decide) rfl (fun ls hl => ?_)
        refine lv_goto (tgt := 8) hx hb dX7_orderOf_24 (by decide) ?_
        exact ih8 v2 v3 (v4 * v5) (v5 + (1 : Int32)) I _ _ ls hf hG (lv_sub hl [2, 3, 4, 1, 0] rfl)
  exact loop8 _ x2 x1 (1 : Int32) (2 : Int32) I _ _ ls hf hG (lv_sub hl [3, 5, 2, 1, 0] rfl)

set_option maxHeartbeats 4000000 in
set_option maxRecDepth 100000 in
theorem mX7_ordersOf (l : Launch) (D : va_G) (ad : Nat → Nat) (cA : Nat → ClassId) (x0 : Int32) (I : zxI) (r : Int32) (J : zxI) (hf : fX7_ordersOf x0 I = some (r, J)) (sz : Nat) : Met l yX7_ordersOf wsX7_ordersOf { frames := 0, cells := 0, slots := 0, locals := 0 } (va_Pc [.int x0] (zxPre D shM ad cA I sz)) (va_Qi (fun (r2 : Int32) (I2 : zxI) => r2 = r ∧ I2 = J) (zxPost D shM ad cA sz) (zxA shM ad sz)) 0 0 (zxA shM ad sz) := by
  refine zx_start (by decide) rfl (Nat.le_of_ble_eq_true rfl) ?_
  intro p e s m args below meth c ls hx hb hr hts hown hlocks hml hG hl
  have hl : lv_has ls 3 [(0, .int x0)] := hl
  unfold fX7_ordersOf at hf
  refine lv_iconst (v := (1 : Int32)) hx hb dX7_ordersOf_0 (by decide) ?_
  refine lv_istore_n (lv' := [(1, .int (1 : Int32)), (0, .int x0)]) hx hb dX7_ordersOf_1 rfl hl (by decide) rfl (fun ls hl => ?_)
  refine lv_iconst (v := (2 : Int32)) hx hb dX7_ordersOf_2 (by decide) ?_
  refine lv_istore_n (lv' := [(2, .int (2 : Int32)), (1, .int (1 : Int32)), (0, .int x0)]) hx hb dX7_ordersOf_3 rfl hl (by decide) rfl (fun ls hl => ?_)
  have loop4 : ∀ (n : Nat) (v0 : Int32) (v1 : Int32) (v2 : Int32) (I : zxI) (H : Heap) (locs : List Loc) (ls : Array Slot), fX7_ordersOf_L4 n v0 v1 v2 I = some (r, J) → zxAt D shM ad cA I s sz H locs → lv_has ls 3 [(0, .int v0), (1, .int v1), (2, .int v2)] → W p l e (headSpec wsX7_ordersOf { frames := 0, cells := 0, slots := 0, locals := 0 }).room s m args below meth c H locs 0 0 (MQ below (va_Qi (fun (r2 : Int32) (I2 : zxI) => r2 = r ∧ I2 = J) (zxPost D shM ad cA sz) (zxA shM ad sz)) args s 0 0 (zxA shM ad sz)) (F0 m 4 ls []) := by
    intro n
    induction n with
    | zero =>
      intro v0 v1 v2 I H locs ls hf hG hl
      rw [fX7_ordersOf_L4] at hf
      cases hf
    | succ n4 ih4 =>
      intro v0 v1 v2 I H locs ls hf hG hl
      rw [fX7_ordersOf_L4] at hf
      refine lv_iload_n hx hb dX7_ordersOf_4 rfl (lv_at hl 2 rfl) ?_
      refine lv_iload_n hx hb dX7_ordersOf_5 rfl (lv_at hl 0 rfl) ?_
      refine lv_icmp_gt (tgt := 19) hx hb dX7_ordersOf_6 (by decide) (fun c_1 => ?_) (fun c_1 => ?_)
      · have hf := zx_pos c_1 hf
        refine lv_iload_n hx hb dX7_ordersOf_19 rfl (lv_at hl 1 rfl) ?_
        exact zx_iret hx hb hr hlocks rfl hG hf dX7_ordersOf_20
      · have hf := zx_neg c_1 hf
        refine lv_iload_n hx hb dX7_ordersOf_9 rfl (lv_at hl 1 rfl) ?_
        refine lv_iload_n hx hb dX7_ordersOf_10 rfl (lv_at hl 2 rfl) ?_
        refine lv_imul hx hb dX7_ordersOf_11 ?_
        refine lv_istore_n (lv' := [(1, .int (v1 * v2)), (0, .int v0), (2, .int v2)]) hx hb dX7_ordersOf_12 rfl hl (by decide) rfl (fun ls hl => ?_)
        refine lv_iinc (v := (v2 + (1 : Int32))) (lv' := [(2, .int (v2 + (1 : Int32))), (1, .int (v1 * v2)), (0, .int v0)]) hx hb dX7_ordersOf_13 hl (k := 2) rfl (congrArg (HAdd.hAdd v2) (by decide)) (by decide) rfl (fun ls hl => ?_)
        refine lv_goto (tgt := 4) hx hb dX7_ordersOf_16 (by decide) ?_
        exact ih4 v0 (v1 * v2) (v2 + (1 : Int32)) I _ _ ls hf hG (lv_sub hl [2, 1, 0] rfl)
  exact loop4 _ x0 (1 : Int32) (2 : Int32) I _ _ ls hf hG (lv_sub hl [2, 1, 0] rfl)

set_option maxHeartbeats 4000000 in
set_option maxRecDepth 100000 in
theorem mX7_isQuiet (l : Launch) (D : va_G) (ad : Nat → Nat) (cA : Nat → ClassId) (x1 : Int32) (x2 : Int32) (I : zxI) (r : Int32) (J : zxI) (hf : fX7_isQuiet x1 x2 I = some (r, J)) (sz : Nat) : Met l yX7_isQuiet wsX7_isQuiet { frames := 4, cells := 0, slots := 0, locals := 86 } (va_Pc [.ref (ad 0), .int x1, .int x2] (zxPre D shM ad cA I sz)) (va_Qi (fun (r2 : Int32) (I2 : zxI) => r2 = r ∧ I2 = J) (zxPost D shM ad cA sz) (zxA shM ad sz)) 0 0 (zxA shM ad sz) := by
  refine zx_start (by decide) rfl (Nat.le_of_ble_eq_true rfl) ?_
  intro p e s m args below meth c ls hx hb hr hts hown hlocks hml hG hl
  have hl : lv_has ls 5 [(0, .ref (ad 0)), (1, .int x1), (2, .int x2)] := hl
  have hiX7 : ∀ w ∈ wsX70, w ∈ wsX7_isQuiet := fun w h => List.mem_cons_of_mem _ (List.mem_append_right _ h)
  have L1 := hts (Cond.fieldLink RX7 16 "GalleryBirdsModel" "cells" "[I") (List.mem_of_getElem? (i := 1) rfl)
  have L2 := hts (Cond.fieldLink RX7 40 "GalleryBirdsModel" "row" "[I") (List.mem_of_getElem? (i := 2) rfl)
  unfold fX7_isQuiet at hf
  refine lv_aload_n hx hb dX7_isQuiet_0 rfl (lv_at hl 0 rfl) ?_
  obtain ⟨I_1, h_1, hf⟩ := zx_v hf
  refine zx_callv (va_runV (As := []) (rest := []) ⟨hx, hb, hml, hown, hts⟩ (mX7_keep l D ad cA I I_1 h_1 _) (cwV 0 hts gX7_isQuiet_X7_keep rfl rfl rfl hd_X7_keep ⟨Nat.le_of_ble_eq_true rfl, Nat.le_of_ble_eq_true rfl⟩) (zx_preV hG shM_0 vc_7) rfl rfl hl.1 rfl (lv_room (Nat.le_of_ble_eq_true rfl)) dX7_isQuiet_1 ⟨Nat.le_refl _, Nat.le_refl _⟩) hG (fun H locs hG => ?_)
  refine lv_iconst (v := (1 : Int32)) hx hb dX7_isQuiet_4 (by decide) ?_
  refine lv_istore_n (lv' := [(3, .int (1 : Int32)), (0, .ref (ad 0)), (1, .int x1), (2, .int x2)]) hx hb dX7_isQuiet_5 rfl hl (by decide) rfl (fun ls hl => ?_)
  refine lv_iconst (v := (0 : Int32)) hx hb dX7_isQuiet_6 (by decide) ?_
  refine lv_istore (lv' := [(4, .int (0 : Int32)), (3, .int (1 : Int32)), (0, .ref (ad 0)), (1, .int x1), (2, .int x2)]) hx hb dX7_isQuiet_7 hl (by decide) rfl (fun ls hl => ?_)
  have loop9 : ∀ (n : Nat) (v1 : Int32) (v2 : Int32) (v3 : Int32) (v4 : Int32) (I : zxI) (H : Heap) (locs : List Loc) (ls : Array Slot), fX7_isQuiet_L9 n v1 v2 v3 v4 I = some (r, J) → zxAt D shM ad cA I s sz H locs → lv_has ls 5 [(0, .ref (ad 0)), (1, .int v1), (2, .int v2), (3, .int v3), (4, .int v4)] → W p l e (headSpec wsX7_isQuiet { frames := 4, cells := 0, slots := 0, locals := 86 }).room s m args below meth c H locs 0 0 (MQ below (va_Qi (fun (r2 : Int32) (I2 : zxI) => r2 = r ∧ I2 = J) (zxPost D shM ad cA sz) (zxA shM ad sz)) args s 0 0 (zxA shM ad sz)) (F0 m 9 ls []) := by
    intro n
    induction n with
    | zero =>
      intro v1 v2 v3 v4 I H locs ls hf hG hl
      rw [fX7_isQuiet_L9] at hf
      cases hf
    | succ n9 ih9 =>
      intro v1 v2 v3 v4 I H locs ls hf hG hl
      rw [fX7_isQuiet_L9] at hf
      refine lv_iload hx hb dX7_isQuiet_9 (lv_at hl 4 rfl) ?_
      refine lv_iload_n hx hb dX7_isQuiet_11 rfl (lv_at hl 2 rfl) ?_
      refine lv_icmp_ge (tgt := 72) hx hb dX7_isQuiet_12 (by decide) (fun c_2 => ?_) (fun c_2 => ?_)
      · have hf := zx_pos c_2 hf
        refine lv_aload_n hx hb dX7_isQuiet_72 rfl (lv_at hl 0 rfl) ?_
        obtain ⟨I_3, h_3, hf⟩ := zx_v hf
        refine zx_callv (va_runV (As := []) (rest := []) ⟨hx, hb, hml, hown, hts⟩ (mX7_putBack l D ad cA I I_3 h_3 _) (cwV 0 hts gX7_isQuiet_X7_putBack rfl rfl rfl hd_X7_putBack ⟨Nat.le_of_ble_eq_true rfl, Nat.le_of_ble_eq_true rfl⟩) (zx_preV hG shM_0 vc_7) rfl rfl hl.1 rfl (lv_room (Nat.le_of_ble_eq_true rfl)) dX7_isQuiet_73 ⟨Nat.le_refl _, Nat.le_refl _⟩) hG (fun H locs hG => ?_)
        refine lv_iload_n hx hb dX7_isQuiet_76 rfl (lv_at hl 3 rfl) ?_
        obtain ⟨g_4, hf⟩ := zx_gd hf
        exact zx_iret hx hb hr hlocks (zx_nz g_4) hG hf dX7_isQuiet_77
      · have hf := zx_neg c_2 hf
        refine lv_iload_n hx hb dX7_isQuiet_15 rfl (lv_at hl 3 rfl) ?_
        refine lv_if_eq (tgt := 72) hx hb dX7_isQuiet_16 (by decide) (fun c_5 => ?_) (fun c_5 => ?_)
        · have hf := zx_pos c_5 hf
          refine lv_aload_n hx hb dX7_isQuiet_72 rfl (lv_at hl 0 rfl) ?_
          obtain ⟨I_6, h_6, hf⟩ := zx_v hf
          refine zx_callv (va_runV (As := []) (rest := []) ⟨hx, hb, hml, hown, hts⟩ (mX7_putBack l D ad cA I I_6 h_6 _) (cwV 0 hts gX7_isQuiet_X7_putBack rfl rfl rfl hd_X7_putBack ⟨Nat.le_of_ble_eq_true rfl, Nat.le_of_ble_eq_true rfl⟩) (zx_preV hG shM_0 vc_7) rfl rfl hl.1 rfl (lv_room (Nat.le_of_ble_eq_true rfl)) dX7_isQuiet_73 ⟨Nat.le_refl _, Nat.le_refl _⟩) hG (fun H locs hG => ?_)
          refine lv_iload_n hx hb dX7_isQuiet_76 rfl (lv_at hl 3 rfl) ?_
          obtain ⟨g_7, hf⟩ := zx_gd hf
          exact zx_iret hx hb hr hlocks (zx_nz g_7) hG hf dX7_isQuiet_77
        · have hf := zx_neg c_5 hf
          refine lv_aload_n hx hb dX7_isQuiet_19 rfl (lv_at hl 0 rfl) ?_
          refine lv_aload_n hx hb dX7_isQuiet_20 rfl (lv_at hl 0 rfl) ?_
          refine zx_getR (d := 3) hx hb hts hiX7 hown hG shM_0 vc_7 4 (by decide) rfl L1 dX7_isQuiet_21 ?_
          refine lv_iload_n hx hb dX7_isQuiet_24 rfl (lv_at hl 1 rfl) ?_
          refine lv_iconst (v := (2 : Int32)) hx hb dX7_isQuiet_25 (by decide) ?_
          refine lv_aload_n hx hb dX7_isQuiet_26 rfl (lv_at hl 0 rfl) ?_
          refine zx_getR (d := 11) hx hb hts hiX7 hown hG shM_0 vc_7 23 (by decide) rfl L2 dX7_isQuiet_27 ?_
          refine lv_iload hx hb dX7_isQuiet_30 (lv_at hl 4 rfl) ?_
          obtain ⟨g_8, hf⟩ := zx_in hf
          refine zx_ald hx hb hG shM_11 g_8 dX7_isQuiet_32 ?_
          refine lv_imul hx hb dX7_isQuiet_33 ?_
          refine lv_iadd hx hb dX7_isQuiet_34 ?_
          obtain ⟨g_9, hf⟩ := zx_in hf
          refine zx_ald hx hb hG shM_3 g_9 dX7_isQuiet_35 ?_
          refine lv_aload_n hx hb dX7_isQuiet_36 rfl (lv_at hl 0 rfl) ?_
          refine zx_getR (d := 3) hx hb hts hiX7 hown hG shM_0 vc_7 4 (by decide) rfl L1 dX7_isQuiet_37 ?_
          refine lv_iload_n hx hb dX7_isQuiet_40 rfl (lv_at hl 1 rfl) ?_
          refine lv_iconst (v := (2 : Int32)) hx hb dX7_isQuiet_41 (by decide) ?_
          refine lv_aload_n hx hb dX7_isQuiet_42 rfl (lv_at hl 0 rfl) ?_
          refine zx_getR (d := 11) hx hb hts hiX7 hown hG shM_0 vc_7 23 (by decide) rfl L2 dX7_isQuiet_43 ?_
          refine lv_iload hx hb dX7_isQuiet_46 (lv_at hl 4 rfl) ?_
          refine zx_ald hx hb hG shM_11 g_8 dX7_isQuiet_48 ?_
          refine lv_imul hx hb dX7_isQuiet_49 ?_
          refine lv_iadd hx hb dX7_isQuiet_50 ?_
          refine lv_iconst (v := (1 : Int32)) hx hb dX7_isQuiet_51 (by decide) ?_
          refine lv_iadd hx hb dX7_isQuiet_52 ?_
          obtain ⟨g_11, hf⟩ := zx_in hf
          refine zx_ald hx hb hG shM_3 g_11 dX7_isQuiet_53 ?_
          obtain ⟨r_12, I_12, h_12, hf⟩ := zx_b hf
          refine zx_calli (va_runV (As := [.int (I 3 (v1 + ((2 : Int32) * (I 11 v4.toNatClampNeg))).toNatClampNeg), .int (I 3 ((v1 + ((2 : Int32) * (I 11 v4.toNatClampNeg))) + (1 : Int32)).toNatClampNeg)]) (rest := []) ⟨hx, hb, hml, hown, hts⟩ (mX7_breathe l D ad cA (I 3 (v1 + ((2 : Int32) * (I 11 v4.toNatClampNeg))).toNatClampNeg) (I 3 ((v1 + ((2 : Int32) * (I 11 v4.toNatClampNeg))) + (1 : Int32)).toNatClampNeg) I r_12 I_12 h_12 _) (cwV 2 hts gX7_isQuiet_X7_breathe rfl rfl rfl hd_X7_breathe ⟨Nat.le_of_ble_eq_true rfl, Nat.le_of_ble_eq_true rfl⟩) (zx_preV hG shM_0 vc_7) rfl rfl hl.1 rfl (lv_room (Nat.le_of_ble_eq_true rfl)) dX7_isQuiet_54 ⟨Nat.le_refl _, Nat.le_refl _⟩) hG (fun H locs hG => ?_)
          refine lv_if_ne (tgt := 64) hx hb dX7_isQuiet_57 (by decide) (fun c_13 => ?_) (fun c_13 => ?_)
          · have hf := zx_neg c_13 hf
            refine lv_iconst (v := (0 : Int32)) hx hb dX7_isQuiet_64 (by decide) ?_
            refine lv_istore_n (lv' := [(3, .int (0 : Int32)), (0, .ref (ad 0)), (1, .int v1), (2, .int v2), (4, .int v4)]) hx hb dX7_isQuiet_65 rfl hl (by decide) rfl (fun ls hl => ?_)
            refine lv_iinc (v := (v4 + (1 : Int32))) (lv' := [(4, .int (v4 + (1 : Int32))), (3, .int (0 : Int32)), (0, .ref (ad 0)), (1, .int v1), (2, .int v2)]) hx hb dX7_isQuiet_66 hl (k := 4) rfl (congrArg (HAdd.hAdd v4) (by decide)) (by decide) rfl (fun ls hl => ?_)
            refine lv_goto (tgt := 9) hx hb dX7_isQuiet_69 (by decide) ?_
            exact ih9 v1 v2 (0 : Int32) (v4 + (1 : Int32)) I_12 _ _ ls hf hG (lv_sub hl [2, 3, 4, 1, 0] rfl)
          · have hf := zx_pos c_13 hf
            refine lv_iconst (v := (1 : Int32)) hx hb dX7_isQuiet_60 (by decide) ?_
            refine lv_goto (tgt := 65) hx hb dX7_isQuiet_61 (by decide) ?_
            refine lv_istore_n (lv' := [(3, .int (1 : Int32)), (0, .ref (ad 0)), (1, .int v1), (2, .int v2), (4, .int v4)]) hx hb dX7_isQuiet_65 rfl hl (by decide) rfl (fun ls hl => ?_)
            refine lv_iinc (v := (v4 + (1 : Int32))) (lv' := [(4, .int (v4 + (1 : Int32))), (3, .int (1 : Int32)), (0, .ref (ad 0)), (1, .int v1), (2, .int v2)]) hx hb dX7_isQuiet_66 hl (k := 4) rfl (congrArg (HAdd.hAdd v4) (by decide)) (by decide) rfl (fun ls hl => ?_)
            refine lv_goto (tgt := 9) hx hb dX7_isQuiet_69 (by decide) ?_
            exact ih9 v1 v2 (1 : Int32) (v4 + (1 : Int32)) I_12 _ _ ls hf hG (lv_sub hl [2, 3, 4, 1, 0] rfl)
  exact loop9 _ x1 x2 (1 : Int32) (0 : Int32) I_1 _ _ ls hf hG (lv_sub hl [2, 3, 4, 1, 0] rfl)

set_option maxHeartbeats 4000000 in
set_option maxRecDepth 100000 in
theorem mX7_order (l : Launch) (D : va_G) (ad : Nat → Nat) (cA : Nat → ClassId) (x1 : Int32) (x2 : Int32) (x3 : Int32) (x4 : Int32) (x5 : Int32) (I : zxI) (r : Int32) (J : zxI) (hf : fX7_order x1 x2 x3 x4 x5 I = some (r, J)) (sz : Nat) : Met l yX7_order wsX7_order { frames := 5, cells := 0, slots := 0, locals := 110 } (va_Pc [.ref (ad 0), .int x1, .int x2, .int x3, .int x4, .int x5] (zxPre D shM ad cA I sz)) (va_Qi (fun (r2 : Int32) (I2 : zxI) => r2 = r ∧ I2 = J) (zxPost D shM ad cA sz) (zxA shM ad sz)) 0 0 (zxA shM ad sz) := by
  refine zx_start (by decide) rfl (Nat.le_of_ble_eq_true rfl) ?_
  intro p e s m args below meth c ls hx hb hr hts hown hlocks hml hG hl
  have hl : lv_has ls 8 [(0, .ref (ad 0)), (1, .int x1), (2, .int x2), (3, .int x3), (4, .int x4), (5, .int x5)] := hl
  have hiX7 : ∀ w ∈ wsX70, w ∈ wsX7_order := fun w h => List.mem_cons_of_mem _ (List.mem_append_right _ h)
  have L1 := hts (Cond.fieldLink RX7 55 "GalleryBirdsModel" "fault" "I") (List.mem_of_getElem? (i := 1) rfl)
  have L2 := hts (Cond.fieldLink RX7 40 "GalleryBirdsModel" "row" "[I") (List.mem_of_getElem? (i := 2) rfl)
  unfold fX7_order at hf
  refine lv_aload_n hx hb dX7_order_0 rfl (lv_at hl 0 rfl) ?_
  refine lv_iconst (v := (0 : Int32)) hx hb dX7_order_1 (by decide) ?_
  refine zx_putI hx hb hts hiX7 tyX7 tyX7_ok nmX7 hown hG shM_0 vc_7 0 (by decide) rfl L1 rfl (ty := .int) (tyX7_ok 0 (by decide)) rfl rfl dX7_order_2 (fun H locs hG => ?_)
  refine lv_aload_n hx hb dX7_order_5 rfl (lv_at hl 0 rfl) ?_
  refine lv_iload_n hx hb dX7_order_6 rfl (lv_at hl 1 rfl) ?_
  refine lv_iload_n hx hb dX7_order_7 rfl (lv_at hl 2 rfl) ?_
  refine lv_iload_n hx hb dX7_order_8 rfl (lv_at hl 3 rfl) ?_
  refine lv_iload hx hb dX7_order_9 (lv_at hl 4 rfl) ?_
  refine lv_bipush (v := (6 : Int32)) hx hb dX7_order_11 (by decide) ?_
  refine lv_iload hx hb dX7_order_13 (lv_at hl 5 rfl) ?_
  refine lv_iconst (v := (0 : Int32)) hx hb dX7_order_15 (by decide) ?_
  refine lv_iconst (v := (5 : Int32)) hx hb dX7_order_16 (by decide) ?_
  obtain ⟨r_1, I_1, h_1, hf⟩ := zx_b hf
  refine zx_calli (va_runS (As := [.int x5, .int (0 : Int32), .int (5 : Int32)]) (rest := [.int (6 : Int32), .int x4, .int x3, .int x2, .int x1, .ref (ad 0)]) ⟨hx, hb, hml, hown, hts⟩ (mX7_within l D ad cA x5 (0 : Int32) (5 : Int32) (zxU I 0 0 (0 : Int32)) r_1 I_1 h_1 _) (va_cwS 3 hts gX7_order_X7_within rfl rfl rfl hd_X7_within ⟨Nat.le_of_ble_eq_true rfl, Nat.le_of_ble_eq_true rfl⟩) (zx_preS hG) rfl rfl hl.1 rfl (lv_room (Nat.le_of_ble_eq_true rfl)) dX7_order_17 ⟨Nat.le_refl _, Nat.le_refl _⟩) hG (fun H locs hG => ?_)
  obtain ⟨r_2, I_2, h_2, hf⟩ := zx_b hf
  refine zx_calli (va_runV (As := [.int x1, .int x2, .int x3, .int x4, .int (6 : Int32), .int r_1]) (rest := []) ⟨hx, hb, hml, hown, hts⟩ (mX7_refuses l D ad cA x1 x2 x3 x4 (6 : Int32) r_1 I_1 r_2 I_2 h_2 _) (cwV 6 hts gX7_order_X7_refuses rfl rfl rfl hd_X7_refuses ⟨Nat.le_of_ble_eq_true rfl, Nat.le_of_ble_eq_true rfl⟩) (zx_preV hG shM_0 vc_7) rfl rfl hl.1 rfl (lv_room (Nat.le_of_ble_eq_true rfl)) dX7_order_20 ⟨Nat.le_refl _, Nat.le_refl _⟩) hG (fun H locs hG => ?_)
  refine lv_istore (lv' := [(6, .int r_2), (0, .ref (ad 0)), (1, .int x1), (2, .int x2), (3, .int x3), (4, .int x4), (5, .int x5)]) hx hb dX7_order_23 hl (by decide) rfl (fun ls hl => ?_)
  refine lv_iload hx hb dX7_order_25 (lv_at hl 0 rfl) ?_
  refine lv_if_eq (tgt := 33) hx hb dX7_order_27 (by decide) (fun c_3 => ?_) (fun c_3 => ?_)
  · have hf := zx_pos c_3 hf
    refine lv_iload hx hb dX7_order_33 (lv_at hl 6 rfl) ?_
    refine lv_iload hx hb dX7_order_35 (lv_at hl 5 rfl) ?_
    refine lv_icmp_lt (tgt := 43) hx hb dX7_order_37 (by decide) (fun c_4 => ?_) (fun c_4 => ?_)
    · have hf := zx_pos c_4 hf
      refine lv_iconst (v := (0 : Int32)) hx hb dX7_order_43 (by decide) ?_
      refine lv_istore (lv' := [(7, .int (0 : Int32)), (6, .int r_2), (0, .ref (ad 0)), (1, .int x1), (2, .int x2), (3, .int x3), (4, .int x4), (5, .int x5)]) hx hb dX7_order_44 hl (by decide) rfl (fun ls hl => ?_)
      have loop46 : ∀ (n : Nat) (v1 : Int32) (v3 : Int32) (v4 : Int32) (v5 : Int32) (v7 : Int32) (I : zxI) (H : Heap) (locs : List Loc) (ls : Array Slot), fX7_order_L46 n v1 v3 v4 v5 v7 I = some (r, J) → zxAt D shM ad cA I s sz H locs → lv_has ls 8 [(0, .ref (ad 0)), (1, .int v1), (3, .int v3), (4, .int v4), (5, .int v5), (7, .int v7)] → W p l e (headSpec wsX7_order { frames := 5, cells := 0, slots := 0, locals := 110 }).room s m args below meth c H locs 0 0 (MQ below (va_Qi (fun (r2 : Int32) (I2 : zxI) => r2 = r ∧ I2 = J) (zxPost D shM ad cA sz) (zxA shM ad sz)) args s 0 0 (zxA shM ad sz)) (F0 m 46 ls []) := by
        intro n
        induction n with
        | zero =>
          intro v1 v3 v4 v5 v7 I H locs ls hf hG hl
          rw [fX7_order_L46] at hf
          cases hf
        | succ n46 ih46 =>
          intro v1 v3 v4 v5 v7 I H locs ls hf hG hl
          rw [fX7_order_L46] at hf
          refine lv_iload hx hb dX7_order_46 (lv_at hl 5 rfl) ?_
          refine lv_iload hx hb dX7_order_48 (lv_at hl 3 rfl) ?_
          obtain ⟨r_5, I_5, h_5, hf⟩ := zx_b hf
          refine zx_calli (va_runS (As := [.int v4]) (rest := [.int v7]) ⟨hx, hb, hml, hown, hts⟩ (mX7_ordersOf l D ad cA v4 I r_5 I_5 h_5 _) (va_cwS 1 hts gX7_order_X7_ordersOf rfl rfl rfl hd_X7_ordersOf ⟨Nat.le_of_ble_eq_true rfl, Nat.le_of_ble_eq_true rfl⟩) (zx_preS hG) rfl rfl hl.1 rfl (lv_room (Nat.le_of_ble_eq_true rfl)) dX7_order_50 ⟨Nat.le_refl _, Nat.le_refl _⟩) hG (fun H locs hG => ?_)
          refine lv_icmp_ge (tgt := 93) hx hb dX7_order_53 (by decide) (fun c_6 => ?_) (fun c_6 => ?_)
          · have hf := zx_pos c_6 hf
            refine lv_bipush (v := (-9 : Int32)) hx hb dX7_order_93 (by decide) ?_
            exact zx_iret hx hb hr hlocks rfl hG hf dX7_order_95
          · have hf := zx_neg c_6 hf
            refine lv_aload_n hx hb dX7_order_56 rfl (lv_at hl 0 rfl) ?_
            refine lv_iload hx hb dX7_order_57 (lv_at hl 5 rfl) ?_
            refine lv_iload hx hb dX7_order_59 (lv_at hl 3 rfl) ?_
            obtain ⟨I_7, h_7, hf⟩ := zx_v hf
            refine zx_callv (va_runV (As := [.int v7, .int v4]) (rest := []) ⟨hx, hb, hml, hown, hts⟩ (mX7_orderOf l D ad cA v7 v4 I_5 I_7 h_7 _) (cwV 2 hts gX7_order_X7_orderOf rfl rfl rfl hd_X7_orderOf ⟨Nat.le_of_ble_eq_true rfl, Nat.le_of_ble_eq_true rfl⟩) (zx_preV hG shM_0 vc_7) rfl rfl hl.1 rfl (lv_room (Nat.le_of_ble_eq_true rfl)) dX7_order_61 ⟨Nat.le_refl _, Nat.le_refl _⟩) hG (fun H locs hG => ?_)
            refine lv_aload_n hx hb dX7_order_64 rfl (lv_at hl 0 rfl) ?_
            refine lv_bipush (v := (60 : Int32)) hx hb dX7_order_65 (by decide) ?_
            refine lv_iload_n hx hb dX7_order_67 rfl (lv_at hl 1 rfl) ?_
            refine lv_imul hx hb dX7_order_68 ?_
            refine lv_iload_n hx hb dX7_order_69 rfl (lv_at hl 2 rfl) ?_
            refine lv_iadd hx hb dX7_order_70 ?_
            refine lv_iload hx hb dX7_order_71 (lv_at hl 3 rfl) ?_
            obtain ⟨r_8, I_8, h_8, hf⟩ := zx_b hf
            refine zx_calli (va_runV (As := [.int (((60 : Int32) * v1) + v3), .int v4]) (rest := []) ⟨hx, hb, hml, hown, hts⟩ (mX7_isQuiet l D ad cA (((60 : Int32) * v1) + v3) v4 I_7 r_8 I_8 h_8 _) (cwV 2 hts gX7_order_X7_isQuiet rfl rfl rfl hd_X7_isQuiet ⟨Nat.le_of_ble_eq_true rfl, Nat.le_of_ble_eq_true rfl⟩) (zx_preV hG shM_0 vc_7) rfl rfl hl.1 rfl (lv_room (Nat.le_of_ble_eq_true rfl)) dX7_order_73 ⟨Nat.le_refl _, Nat.le_refl _⟩) hG (fun H locs hG => ?_)
            refine lv_if_eq (tgt := 87) hx hb dX7_order_76 (by decide) (fun c_9 => ?_) (fun c_9 => ?_)
            · have hf := zx_pos c_9 hf
              refine lv_iinc (v := (v7 + (1 : Int32))) (lv' := [(7, .int (v7 + (1 : Int32))), (0, .ref (ad 0)), (1, .int v1), (3, .int v3), (4, .int v4), (5, .int v5)]) hx hb dX7_order_87 hl (k := 5) rfl (congrArg (HAdd.hAdd v7) (by decide)) (by decide) rfl (fun ls hl => ?_)
              refine lv_goto (tgt := 46) hx hb dX7_order_90 (by decide) ?_
              exact ih46 v1 v3 v4 v5 (v7 + (1 : Int32)) I_8 _ _ ls hf hG (lv_sub hl [1, 2, 3, 4, 5, 0] rfl)
            · have hf := zx_neg c_9 hf
              refine lv_aload_n hx hb dX7_order_79 rfl (lv_at hl 0 rfl) ?_
              refine zx_getR (d := 11) hx hb hts hiX7 hown hG shM_0 vc_7 23 (by decide) rfl L2 dX7_order_80 ?_
              refine lv_iload hx hb dX7_order_83 (lv_at hl 4 rfl) ?_
              obtain ⟨g_10, hf⟩ := zx_in hf
              refine zx_ald hx hb hG shM_11 g_10 dX7_order_85 ?_
              exact zx_iret hx hb hr hlocks rfl hG hf dX7_order_86
      exact loop46 _ x1 x3 x4 x5 (0 : Int32) I_2 _ _ ls hf hG (lv_sub hl [2, 3, 5, 6, 7, 0] rfl)
    · have hf := zx_neg c_4 hf
      refine lv_bipush (v := (-9 : Int32)) hx hb dX7_order_40 (by decide) ?_
      exact zx_iret hx hb hr hlocks rfl hG hf dX7_order_42
  · have hf := zx_neg c_3 hf
    refine lv_iload hx hb dX7_order_30 (lv_at hl 0 rfl) ?_
    exact zx_iret hx hb hr hlocks rfl hG hf dX7_order_32

set_option maxHeartbeats 4000000 in
set_option maxRecDepth 100000 in
theorem mX7_shut (l : Launch) (D : va_G) (ad : Nat → Nat) (cA : Nat → ClassId) (x1 : Int32) (x2 : Int32) (x3 : Int32) (x4 : Int32) (x5 : Int32) (I : zxI) (r : Int32) (J : zxI) (hf : fX7_shut x1 x2 x3 x4 x5 I = some (r, J)) (sz : Nat) : Met l yX7_shut wsX7_shut { frames := 5, cells := 0, slots := 0, locals := 110 } (va_Pc [.ref (ad 0), .int x1, .int x2, .int x3, .int x4, .int x5] (zxPre D shM ad cA I sz)) (va_Qi (fun (r2 : Int32) (I2 : zxI) => r2 = r ∧ I2 = J) (zxPost D shM ad cA sz) (zxA shM ad sz)) 0 0 (zxA shM ad sz) := by
  refine zx_start (by decide) rfl (Nat.le_of_ble_eq_true rfl) ?_
  intro p e s m args below meth c ls hx hb hr hts hown hlocks hml hG hl
  have hl : lv_has ls 11 [(0, .ref (ad 0)), (1, .int x1), (2, .int x2), (3, .int x3), (4, .int x4), (5, .int x5)] := hl
  have hiX7 : ∀ w ∈ wsX70, w ∈ wsX7_shut := fun w h => List.mem_cons_of_mem _ (List.mem_append_right _ h)
  have L1 := hts (Cond.fieldLink RX7 55 "GalleryBirdsModel" "fault" "I") (List.mem_of_getElem? (i := 1) rfl)
  have L2 := hts (Cond.fieldLink RX7 101 "GalleryBirdsModel" "doors" "I") (List.mem_of_getElem? (i := 2) rfl)
  have L3 := hts (Cond.fieldLink RX7 65 "GalleryBirdsModel" "galleries" "I") (List.mem_of_getElem? (i := 3) rfl)
  have L4 := hts (Cond.fieldLink RX7 166 "GalleryBirdsModel" "dropped" "I") (List.mem_of_getElem? (i := 4) rfl)
  unfold fX7_shut at hf
  refine lv_aload_n hx hb dX7_shut_0 rfl (lv_at hl 0 rfl) ?_
  refine lv_iconst (v := (0 : Int32)) hx hb dX7_shut_1 (by decide) ?_
  refine zx_putI hx hb hts hiX7 tyX7 tyX7_ok nmX7 hown hG shM_0 vc_7 0 (by decide) rfl L1 rfl (ty := .int) (tyX7_ok 0 (by decide)) rfl rfl dX7_shut_2 (fun H locs hG => ?_)
  refine lv_aload_n hx hb dX7_shut_5 rfl (lv_at hl 0 rfl) ?_
  refine lv_iload_n hx hb dX7_shut_6 rfl (lv_at hl 1 rfl) ?_
  refine lv_iload_n hx hb dX7_shut_7 rfl (lv_at hl 2 rfl) ?_
  refine lv_iload_n hx hb dX7_shut_8 rfl (lv_at hl 3 rfl) ?_
  refine lv_iload hx hb dX7_shut_9 (lv_at hl 4 rfl) ?_
  refine lv_bipush (v := (20 : Int32)) hx hb dX7_shut_11 (by decide) ?_
  refine lv_iload hx hb dX7_shut_13 (lv_at hl 5 rfl) ?_
  refine lv_iconst (v := (0 : Int32)) hx hb dX7_shut_15 (by decide) ?_
  refine lv_iconst (v := (1 : Int32)) hx hb dX7_shut_16 (by decide) ?_
  obtain ⟨r_1, I_1, h_1, hf⟩ := zx_b hf
  refine zx_calli (va_runS (As := [.int x5, .int (0 : Int32), .int (1 : Int32)]) (rest := [.int (20 : Int32), .int x4, .int x3, .int x2, .int x1, .ref (ad 0)]) ⟨hx, hb, hml, hown, hts⟩ (mX7_within l D ad cA x5 (0 : Int32) (1 : Int32) (zxU I 0 0 (0 : Int32)) r_1 I_1 h_1 _) (va_cwS 3 hts gX7_shut_X7_within rfl rfl rfl hd_X7_within ⟨Nat.le_of_ble_eq_true rfl, Nat.le_of_ble_eq_true rfl⟩) (zx_preS hG) rfl rfl hl.1 rfl (lv_room (Nat.le_of_ble_eq_true rfl)) dX7_shut_17 ⟨Nat.le_refl _, Nat.le_refl _⟩) hG (fun H locs hG => ?_)
  obtain ⟨r_2, I_2, h_2, hf⟩ := zx_b hf
  refine zx_calli (va_runV (As := [.int x1, .int x2, .int x3, .int x4, .int (20 : Int32), .int r_1]) (rest := []) ⟨hx, hb, hml, hown, hts⟩ (mX7_refuses l D ad cA x1 x2 x3 x4 (20 : Int32) r_1 I_1 r_2 I_2 h_2 _) (cwV 6 hts gX7_shut_X7_refuses rfl rfl rfl hd_X7_refuses ⟨Nat.le_of_ble_eq_true rfl, Nat.le_of_ble_eq_true rfl⟩) (zx_preV hG shM_0 vc_7) rfl rfl hl.1 rfl (lv_room (Nat.le_of_ble_eq_true rfl)) dX7_shut_20 ⟨Nat.le_refl _, Nat.le_refl _⟩) hG (fun H locs hG => ?_)
  refine lv_istore (lv' := [(6, .int r_2), (0, .ref (ad 0)), (1, .int x1), (2, .int x2), (3, .int x3), (4, .int x4), (5, .int x5)]) hx hb dX7_shut_23 hl (by decide) rfl (fun ls hl => ?_)
  refine lv_iload hx hb dX7_shut_25 (lv_at hl 0 rfl) ?_
  refine lv_if_eq (tgt := 33) hx hb dX7_shut_27 (by decide) (fun c_3 => ?_) (fun c_3 => ?_)
  · have hf := zx_pos c_3 hf
    refine lv_aload_n hx hb dX7_shut_33 rfl (lv_at hl 1 rfl) ?_
    refine zx_getI hx hb hts hiX7 hown hG shM_0 vc_7 9 (by decide) rfl L2 dX7_shut_34 ?_
    refine lv_istore (lv' := [(7, .int (I_2 0 9)), (6, .int r_2), (0, .ref (ad 0)), (1, .int x1), (2, .int x2), (3, .int x3), (4, .int x4), (5, .int x5)]) hx hb dX7_shut_37 hl (by decide) rfl (fun ls hl => ?_)
    refine lv_iconst (v := (0 : Int32)) hx hb dX7_shut_39 (by decide) ?_
    refine lv_istore (lv' := [(8, .int (0 : Int32)), (7, .int (I_2 0 9)), (6, .int r_2), (0, .ref (ad 0)), (1, .int x1), (2, .int x2), (3, .int x3), (4, .int x4), (5, .int x5)]) hx hb dX7_shut_40 hl (by decide) rfl (fun ls hl => ?_)
    refine lv_bipush (v := (-9 : Int32)) hx hb dX7_shut_42 (by decide) ?_
    refine lv_istore (lv' := [(9, .int (-9 : Int32)), (8, .int (0 : Int32)), (7, .int (I_2 0 9)), (6, .int r_2), (0, .ref (ad 0)), (1, .int x1), (2, .int x2), (3, .int x3), (4, .int x4), (5, .int x5)]) hx hb dX7_shut_44 hl (by decide) rfl (fun ls hl => ?_)
    refine lv_iconst (v := (0 : Int32)) hx hb dX7_shut_46 (by decide) ?_
    refine lv_istore (lv' := [(10, .int (0 : Int32)), (9, .int (-9 : Int32)), (8, .int (0 : Int32)), (7, .int (I_2 0 9)), (6, .int r_2), (0, .ref (ad 0)), (1, .int x1), (2, .int x2), (3, .int x3), (4, .int x4), (5, .int x5)]) hx hb dX7_shut_47 hl (by decide) rfl (fun ls hl => ?_)
    have loop49 : ∀ (n : Nat) (v1 : Int32) (v3 : Int32) (v4 : Int32) (v5 : Int32) (v7 : Int32) (v8 : Int32) (v9 : Int32) (v10 : Int32) (I : zxI) (H : Heap) (locs : List Loc) (ls : Array Slot), fX7_shut_L49 n v1 v3 v4 v5 v7 v8 v9 v10 I = some (r, J) → zxAt D shM ad cA I s sz H locs → lv_has ls 11 [(0, .ref (ad 0)), (1, .int v1), (3, .int v3), (4, .int v4), (5, .int v5), (7, .int v7), (8, .int v8), (9, .int v9), (10, .int v10)] → W p l e (headSpec wsX7_shut { frames := 5, cells := 0, slots := 0, locals := 110 }).room s m args below meth c H locs 0 0 (MQ below (va_Qi (fun (r2 : Int32) (I2 : zxI) => r2 = r ∧ I2 = J) (zxPost D shM ad cA sz) (zxA shM ad sz)) args s 0 0 (zxA shM ad sz)) (F0 m 49 ls []) := by
      intro n
      induction n with
      | zero =>
        intro v1 v3 v4 v5 v7 v8 v9 v10 I H locs ls hf hG hl
        rw [fX7_shut_L49] at hf
        cases hf
      | succ n49 ih49 =>
        intro v1 v3 v4 v5 v7 v8 v9 v10 I H locs ls hf hG hl
        rw [fX7_shut_L49] at hf
        refine lv_iload hx hb dX7_shut_49 (lv_at hl 8 rfl) ?_
        refine lv_iconst (v := (1 : Int32)) hx hb dX7_shut_51 (by decide) ?_
        refine lv_aload_n hx hb dX7_shut_52 rfl (lv_at hl 0 rfl) ?_
        refine zx_getI hx hb hts hiX7 hown hG shM_0 vc_7 5 (by decide) rfl L3 dX7_shut_53 ?_
        refine lv_iconst (v := (1 : Int32)) hx hb dX7_shut_56 (by decide) ?_
        refine lv_isub hx hb dX7_shut_57 ?_
        refine lv_ishl hx hb dX7_shut_58 ?_
        refine lv_icmp_ge (tgt := 142) hx hb dX7_shut_59 (by decide) (fun c_4 => ?_) (fun c_4 => ?_)
        · have hf := zx_pos c_4 hf
          refine lv_aload_n hx hb dX7_shut_142 rfl (lv_at hl 0 rfl) ?_
          refine lv_iload hx hb dX7_shut_143 (lv_at hl 5 rfl) ?_
          refine zx_putI hx hb hts hiX7 tyX7 tyX7_ok nmX7 hown hG shM_0 vc_7 9 (by decide) rfl L2 rfl (ty := .int) (tyX7_ok 9 (by decide)) rfl rfl dX7_shut_145 (fun H locs hG => ?_)
          refine lv_iload hx hb dX7_shut_148 (lv_at hl 4 rfl) ?_
          refine lv_if_ne (tgt := 158) hx hb dX7_shut_150 (by decide) (fun c_5 => ?_) (fun c_5 => ?_)
          · have hf := zx_neg c_5 hf
            refine lv_iload hx hb dX7_shut_158 (lv_at hl 7 rfl) ?_
            exact zx_iret hx hb hr hlocks rfl hG hf dX7_shut_160
          · have hf := zx_pos c_5 hf
            refine lv_iload hx hb dX7_shut_153 (lv_at hl 6 rfl) ?_
            refine lv_goto (tgt := 160) hx hb dX7_shut_155 (by decide) ?_
            exact zx_iret hx hb hr hlocks rfl hG hf dX7_shut_160
        · have hf := zx_neg c_4 hf
          refine lv_aload_n hx hb dX7_shut_62 rfl (lv_at hl 0 rfl) ?_
          refine lv_iload hx hb dX7_shut_63 (lv_at hl 8 rfl) ?_
          refine zx_putI hx hb hts hiX7 tyX7 tyX7_ok nmX7 hown hG shM_0 vc_7 9 (by decide) rfl L2 rfl (ty := .int) (tyX7_ok 9 (by decide)) rfl rfl dX7_shut_65 (fun H locs hG => ?_)
          refine lv_aload_n hx hb dX7_shut_68 rfl (lv_at hl 0 rfl) ?_
          obtain ⟨I_6, h_6, hf⟩ := zx_v hf
          refine zx_callv (va_runV (As := []) (rest := []) ⟨hx, hb, hml, hown, hts⟩ (mX7_keep l D ad cA (zxU I 0 9 v10) I_6 h_6 _) (cwV 0 hts gX7_shut_X7_keep rfl rfl rfl hd_X7_keep ⟨Nat.le_of_ble_eq_true rfl, Nat.le_of_ble_eq_true rfl⟩) (zx_preV hG shM_0 vc_7) rfl rfl hl.1 rfl (lv_room (Nat.le_of_ble_eq_true rfl)) dX7_shut_69 ⟨Nat.le_refl _, Nat.le_refl _⟩) hG (fun H locs hG => ?_)
          refine lv_aload_n hx hb dX7_shut_72 rfl (lv_at hl 0 rfl) ?_
          refine lv_bipush (v := (60 : Int32)) hx hb dX7_shut_73 (by decide) ?_
          refine lv_iload_n hx hb dX7_shut_75 rfl (lv_at hl 1 rfl) ?_
          refine lv_imul hx hb dX7_shut_76 ?_
          refine lv_iload_n hx hb dX7_shut_77 rfl (lv_at hl 2 rfl) ?_
          refine lv_iadd hx hb dX7_shut_78 ?_
          refine lv_iload hx hb dX7_shut_79 (lv_at hl 3 rfl) ?_
          obtain ⟨I_7, h_7, hf⟩ := zx_v hf
          refine zx_callv (va_runV (As := [.int (((60 : Int32) * v1) + v3), .int v4]) (rest := []) ⟨hx, hb, hml, hown, hts⟩ (mX7_goShift l D ad cA (((60 : Int32) * v1) + v3) v4 I_6 I_7 h_7 _) (cwV 2 hts gX7_shut_X7_goShift rfl rfl rfl hd_X7_goShift ⟨Nat.le_of_ble_eq_true rfl, Nat.le_of_ble_eq_true rfl⟩) (zx_preV hG shM_0 vc_7) rfl rfl hl.1 rfl (lv_room (Nat.le_of_ble_eq_true rfl)) dX7_shut_81 ⟨Nat.le_refl _, Nat.le_refl _⟩) hG (fun H locs hG => ?_)
          refine lv_aload_n hx hb dX7_shut_84 rfl (lv_at hl 0 rfl) ?_
          obtain ⟨I_8, h_8, hf⟩ := zx_v hf
          refine zx_callv (va_runV (As := []) (rest := []) ⟨hx, hb, hml, hown, hts⟩ (mX7_putBack l D ad cA I_7 I_8 h_8 _) (cwV 0 hts gX7_shut_X7_putBack rfl rfl rfl hd_X7_putBack ⟨Nat.le_of_ble_eq_true rfl, Nat.le_of_ble_eq_true rfl⟩) (zx_preV hG shM_0 vc_7) rfl rfl hl.1 rfl (lv_room (Nat.le_of_ble_eq_true rfl)) dX7_shut_85 ⟨Nat.le_refl _, Nat.le_refl _⟩) hG (fun H locs hG => ?_)
          refine lv_iload hx hb dX7_shut_88 (lv_at hl 7 rfl) ?_
          refine lv_bipush (v := (-9 : Int32)) hx hb dX7_shut_90 (by decide) ?_
          refine lv_icmp_eq (tgt := 126) hx hb dX7_shut_92 (by decide) (fun c_9 => ?_) (fun c_9 => ?_)
          · have hf := zx_pos c_9 hf
            refine lv_iload hx hb dX7_shut_126 (lv_at hl 8 rfl) ?_
            refine lv_istore (lv' := [(8, .int v10), (0, .ref (ad 0)), (1, .int v1), (3, .int v3), (4, .int v4), (5, .int v5), (7, .int v7), (9, .int v9), (10, .int v10)]) hx hb dX7_shut_128 hl (by decide) rfl (fun ls hl => ?_)
            refine lv_aload_n hx hb dX7_shut_130 rfl (lv_at hl 1 rfl) ?_
            refine zx_getI hx hb hts hiX7 hown hG shM_0 vc_7 21 (by decide) rfl L4 dX7_shut_131 ?_
            refine lv_istore (lv' := [(9, .int (I_8 0 21)), (8, .int v10), (0, .ref (ad 0)), (1, .int v1), (3, .int v3), (4, .int v4), (5, .int v5), (7, .int v7), (10, .int v10)]) hx hb dX7_shut_134 hl (by decide) rfl (fun ls hl => ?_)
            refine lv_iinc (v := (v10 + (1 : Int32))) (lv' := [(10, .int (v10 + (1 : Int32))), (9, .int (I_8 0 21)), (8, .int v10), (0, .ref (ad 0)), (1, .int v1), (3, .int v3), (4, .int v4), (5, .int v5), (7, .int v7)]) hx hb dX7_shut_136 hl (k := 8) rfl (congrArg (HAdd.hAdd v10) (by decide)) (by decide) rfl (fun ls hl => ?_)
            refine lv_goto (tgt := 49) hx hb dX7_shut_139 (by decide) ?_
            exact ih49 v1 v3 v4 v5 v7 v10 (I_8 0 21) (v10 + (1 : Int32)) I_8 _ _ ls hf hG (lv_sub hl [3, 4, 5, 6, 7, 8, 2, 1, 0] rfl)
          · have hf := zx_neg c_9 hf
            refine lv_aload_n hx hb dX7_shut_95 rfl (lv_at hl 0 rfl) ?_
            refine zx_getI hx hb hts hiX7 hown hG shM_0 vc_7 21 (by decide) rfl L4 dX7_shut_96 ?_
            refine lv_iload hx hb dX7_shut_99 (lv_at hl 7 rfl) ?_
            refine lv_icmp_lt (tgt := 126) hx hb dX7_shut_101 (by decide) (fun c_10 => ?_) (fun c_10 => ?_)
            · have hf := zx_pos c_10 hf
              refine lv_iload hx hb dX7_shut_126 (lv_at hl 8 rfl) ?_
              refine lv_istore (lv' := [(8, .int v10), (0, .ref (ad 0)), (1, .int v1), (3, .int v3), (4, .int v4), (5, .int v5), (7, .int v7), (9, .int v9), (10, .int v10)]) hx hb dX7_shut_128 hl (by decide) rfl (fun ls hl => ?_)
              refine lv_aload_n hx hb dX7_shut_130 rfl (lv_at hl 1 rfl) ?_
              refine zx_getI hx hb hts hiX7 hown hG shM_0 vc_7 21 (by decide) rfl L4 dX7_shut_131 ?_
              refine lv_istore (lv' := [(9, .int (I_8 0 21)), (8, .int v10), (0, .ref (ad 0)), (1, .int v1), (3, .int v3), (4, .int v4), (5, .int v5), (7, .int v7), (10, .int v10)]) hx hb dX7_shut_134 hl (by decide) rfl (fun ls hl => ?_)
              refine lv_iinc (v := (v10 + (1 : Int32))) (lv' := [(10, .int (v10 + (1 : Int32))), (9, .int (I_8 0 21)), (8, .int v10), (0, .ref (ad 0)), (1, .int v1), (3, .int v3), (4, .int v4), (5, .int v5), (7, .int v7)]) hx hb dX7_shut_136 hl (k := 8) rfl (congrArg (HAdd.hAdd v10) (by decide)) (by decide) rfl (fun ls hl => ?_)
              refine lv_goto (tgt := 49) hx hb dX7_shut_139 (by decide) ?_
              exact ih49 v1 v3 v4 v5 v7 v10 (I_8 0 21) (v10 + (1 : Int32)) I_8 _ _ ls hf hG (lv_sub hl [3, 4, 5, 6, 7, 8, 2, 1, 0] rfl)
            · have hf := zx_neg c_10 hf
              refine lv_aload_n hx hb dX7_shut_104 rfl (lv_at hl 0 rfl) ?_
              refine zx_getI hx hb hts hiX7 hown hG shM_0 vc_7 21 (by decide) rfl L4 dX7_shut_105 ?_
              refine lv_iload hx hb dX7_shut_108 (lv_at hl 7 rfl) ?_
              refine lv_icmp_ne (tgt := 136) hx hb dX7_shut_110 (by decide) (fun c_11 => ?_) (fun c_11 => ?_)
              · have hf := zx_neg c_11 hf
                refine lv_iinc (v := (v10 + (1 : Int32))) (lv' := [(10, .int (v10 + (1 : Int32))), (0, .ref (ad 0)), (1, .int v1), (3, .int v3), (4, .int v4), (5, .int v5), (7, .int v7), (8, .int v8), (9, .int v9)]) hx hb dX7_shut_136 hl (k := 8) rfl (congrArg (HAdd.hAdd v10) (by decide)) (by decide) rfl (fun ls hl => ?_)
                refine lv_goto (tgt := 49) hx hb dX7_shut_139 (by decide) ?_
                exact ih49 v1 v3 v4 v5 v7 v8 v9 (v10 + (1 : Int32)) I_8 _ _ ls hf hG (lv_sub hl [1, 2, 3, 4, 5, 6, 7, 8, 0] rfl)
              · have hf := zx_pos c_11 hf
                refine lv_iload hx hb dX7_shut_113 (lv_at hl 8 rfl) ?_
                obtain ⟨r_12, I_12, h_12, hf⟩ := zx_b hf
                refine zx_calli (va_runS (As := [.int v10]) (rest := []) ⟨hx, hb, hml, hown, hts⟩ (mX7_size l D ad cA v10 I_8 r_12 I_12 h_12 _) (va_cwS 1 hts gX7_shut_X7_size rfl rfl rfl hd_X7_size ⟨Nat.le_of_ble_eq_true rfl, Nat.le_of_ble_eq_true rfl⟩) (zx_preS hG) rfl rfl hl.1 rfl (lv_room (Nat.le_of_ble_eq_true rfl)) dX7_shut_115 ⟨Nat.le_refl _, Nat.le_refl _⟩) hG (fun H locs hG => ?_)
                refine lv_iload hx hb dX7_shut_118 (lv_at hl 6 rfl) ?_
                obtain ⟨r_13, I_13, h_13, hf⟩ := zx_b hf
                refine zx_calli (va_runS (As := [.int v8]) (rest := [.int r_12]) ⟨hx, hb, hml, hown, hts⟩ (mX7_size l D ad cA v8 I_12 r_13 I_13 h_13 _) (va_cwS 1 hts gX7_shut_X7_size rfl rfl rfl hd_X7_size ⟨Nat.le_of_ble_eq_true rfl, Nat.le_of_ble_eq_true rfl⟩) (zx_preS hG) rfl rfl hl.1 rfl (lv_room (Nat.le_of_ble_eq_true rfl)) dX7_shut_120 ⟨Nat.le_refl _, Nat.le_refl _⟩) hG (fun H locs hG => ?_)
                refine lv_icmp_ge (tgt := 136) hx hb dX7_shut_123 (by decide) (fun c_14 => ?_) (fun c_14 => ?_)
                · have hf := zx_pos c_14 hf
                  refine lv_iinc (v := (v10 + (1 : Int32))) (lv' := [(10, .int (v10 + (1 : Int32))), (0, .ref (ad 0)), (1, .int v1), (3, .int v3), (4, .int v4), (5, .int v5), (7, .int v7), (8, .int v8), (9, .int v9)]) hx hb dX7_shut_136 hl (k := 8) rfl (congrArg (HAdd.hAdd v10) (by decide)) (by decide) rfl (fun ls hl => ?_)
                  refine lv_goto (tgt := 49) hx hb dX7_shut_139 (by decide) ?_
                  exact ih49 v1 v3 v4 v5 v7 v8 v9 (v10 + (1 : Int32)) I_13 _ _ ls hf hG (lv_sub hl [1, 2, 3, 4, 5, 6, 7, 8, 0] rfl)
                · have hf := zx_neg c_14 hf
                  refine lv_iload hx hb dX7_shut_126 (lv_at hl 8 rfl) ?_
                  refine lv_istore (lv' := [(8, .int v10), (0, .ref (ad 0)), (1, .int v1), (3, .int v3), (4, .int v4), (5, .int v5), (7, .int v7), (9, .int v9), (10, .int v10)]) hx hb dX7_shut_128 hl (by decide) rfl (fun ls hl => ?_)
                  refine lv_aload_n hx hb dX7_shut_130 rfl (lv_at hl 1 rfl) ?_
                  refine zx_getI hx hb hts hiX7 hown hG shM_0 vc_7 21 (by decide) rfl L4 dX7_shut_131 ?_
                  refine lv_istore (lv' := [(9, .int (I_13 0 21)), (8, .int v10), (0, .ref (ad 0)), (1, .int v1), (3, .int v3), (4, .int v4), (5, .int v5), (7, .int v7), (10, .int v10)]) hx hb dX7_shut_134 hl (by decide) rfl (fun ls hl => ?_)
                  refine lv_iinc (v := (v10 + (1 : Int32))) (lv' := [(10, .int (v10 + (1 : Int32))), (9, .int (I_13 0 21)), (8, .int v10), (0, .ref (ad 0)), (1, .int v1), (3, .int v3), (4, .int v4), (5, .int v5), (7, .int v7)]) hx hb dX7_shut_136 hl (k := 8) rfl (congrArg (HAdd.hAdd v10) (by decide)) (by decide) rfl (fun ls hl => ?_)
                  refine lv_goto (tgt := 49) hx hb dX7_shut_139 (by decide) ?_
                  exact ih49 v1 v3 v4 v5 v7 v10 (I_13 0 21) (v10 + (1 : Int32)) I_13 _ _ ls hf hG (lv_sub hl [3, 4, 5, 6, 7, 8, 2, 1, 0] rfl)
    exact loop49 _ x1 x3 x4 x5 (I_2 0 9) (0 : Int32) (-9 : Int32) (0 : Int32) I_2 _ _ ls hf hG (lv_sub hl [5, 6, 8, 9, 10, 3, 2, 1, 0] rfl)
  · have hf := zx_neg c_3 hf
    refine lv_iload hx hb dX7_shut_30 (lv_at hl 0 rfl) ?_
    exact zx_iret hx hb hr hlocks rfl hG hf dX7_shut_32

set_option maxHeartbeats 4000000 in
set_option maxRecDepth 100000 in
theorem mX7_rests (l : Launch) (D : va_G) (ad : Nat → Nat) (cA : Nat → ClassId) (I : zxI) (r : Int32) (J : zxI) (hf : fX7_rests I = some (r, J)) (sz : Nat) : Met l yX7_rests wsX7_rests { frames := 2, cells := 0, slots := 0, locals := 45 } (va_Pc [.ref (ad 0)] (zxPre D shM ad cA I sz)) (va_Qi (fun (r2 : Int32) (I2 : zxI) => r2 = r ∧ I2 = J) (zxPost D shM ad cA sz) (zxA shM ad sz)) 0 0 (zxA shM ad sz) := by
  refine zx_start (by decide) rfl (Nat.le_of_ble_eq_true rfl) ?_
  intro p e s m args below meth c ls hx hb hr hts hown hlocks hml hG hl
  have hl : lv_has ls 2 [(0, .ref (ad 0))] := hl
  have hiX7 : ∀ w ∈ wsX70, w ∈ wsX7_rests := fun w h => List.mem_cons_of_mem _ (List.mem_append_right _ h)
  have L1 := hts (Cond.fieldLink RX7 65 "GalleryBirdsModel" "galleries" "I") (List.mem_of_getElem? (i := 1) rfl)
  unfold fX7_rests at hf
  refine lv_aload_n hx hb dX7_rests_0 rfl (lv_at hl 0 rfl) ?_
  refine zx_getI hx hb hts hiX7 hown hG shM_0 vc_7 5 (by decide) rfl L1 dX7_rests_1 ?_
  refine lv_if_ne (tgt := 10) hx hb dX7_rests_4 (by decide) (fun c_1 => ?_) (fun c_1 => ?_)
  · have hf := zx_neg c_1 hf
    refine lv_aload_n hx hb dX7_rests_10 rfl (lv_at hl 0 rfl) ?_
    obtain ⟨I_2, h_2, hf⟩ := zx_v hf
    refine zx_callv (va_runV (As := []) (rest := []) ⟨hx, hb, hml, hown, hts⟩ (mX7_keep l D ad cA I I_2 h_2 _) (cwV 0 hts gX7_rests_X7_keep rfl rfl rfl hd_X7_keep ⟨Nat.le_of_ble_eq_true rfl, Nat.le_of_ble_eq_true rfl⟩) (zx_preV hG shM_0 vc_7) rfl rfl hl.1 rfl (lv_room (Nat.le_of_ble_eq_true rfl)) dX7_rests_11 ⟨Nat.le_refl _, Nat.le_refl _⟩) hG (fun H locs hG => ?_)
    refine lv_iconst (v := (0 : Int32)) hx hb dX7_rests_14 (by decide) ?_
    refine lv_istore_n (lv' := [(1, .int (0 : Int32)), (0, .ref (ad 0))]) hx hb dX7_rests_15 rfl hl (by decide) rfl (fun ls hl => ?_)
    have loop16 : ∀ (n : Nat) (v1 : Int32) (I : zxI) (H : Heap) (locs : List Loc) (ls : Array Slot), fX7_rests_L16 n v1 I = some (r, J) → zxAt D shM ad cA I s sz H locs → lv_has ls 2 [(0, .ref (ad 0)), (1, .int v1)] → W p l e (headSpec wsX7_rests { frames := 2, cells := 0, slots := 0, locals := 45 }).room s m args below meth c H locs 0 0 (MQ below (va_Qi (fun (r2 : Int32) (I2 : zxI) => r2 = r ∧ I2 = J) (zxPost D shM ad cA sz) (zxA shM ad sz)) args s 0 0 (zxA shM ad sz)) (F0 m 16 ls []) := by
      intro n
      induction n with
      | zero =>
        intro v1 I H locs ls hf hG hl
        rw [fX7_rests_L16] at hf
        cases hf
      | succ n16 ih16 =>
        intro v1 I H locs ls hf hG hl
        rw [fX7_rests_L16] at hf
        refine lv_iload_n hx hb dX7_rests_16 rfl (lv_at hl 1 rfl) ?_
        refine lv_bipush (v := (60 : Int32)) hx hb dX7_rests_17 (by decide) ?_
        refine lv_icmp_gt (tgt := 35) hx hb dX7_rests_19 (by decide) (fun c_3 => ?_) (fun c_3 => ?_)
        · have hf := zx_pos c_3 hf
          refine lv_aload_n hx hb dX7_rests_35 rfl (lv_at hl 0 rfl) ?_
          obtain ⟨I_4, h_4, hf⟩ := zx_v hf
          refine zx_callv (va_runV (As := []) (rest := []) ⟨hx, hb, hml, hown, hts⟩ (mX7_putBack l D ad cA I I_4 h_4 _) (cwV 0 hts gX7_rests_X7_putBack rfl rfl rfl hd_X7_putBack ⟨Nat.le_of_ble_eq_true rfl, Nat.le_of_ble_eq_true rfl⟩) (zx_preV hG shM_0 vc_7) rfl rfl hl.1 rfl (lv_room (Nat.le_of_ble_eq_true rfl)) dX7_rests_36 ⟨Nat.le_refl _, Nat.le_refl _⟩) hG (fun H locs hG => ?_)
          refine lv_iload_n hx hb dX7_rests_39 rfl (lv_at hl 1 rfl) ?_
          refine lv_bipush (v := (60 : Int32)) hx hb dX7_rests_40 (by decide) ?_
          refine lv_icmp_gt (tgt := 49) hx hb dX7_rests_42 (by decide) (fun c_5 => ?_) (fun c_5 => ?_)
          · have hf := zx_pos c_5 hf
            refine lv_bipush (v := (-9 : Int32)) hx hb dX7_rests_49 (by decide) ?_
            exact zx_iret hx hb hr hlocks rfl hG hf dX7_rests_51
          · have hf := zx_neg c_5 hf
            refine lv_iload_n hx hb dX7_rests_45 rfl (lv_at hl 1 rfl) ?_
            refine lv_goto (tgt := 51) hx hb dX7_rests_46 (by decide) ?_
            exact zx_iret hx hb hr hlocks rfl hG hf dX7_rests_51
        · have hf := zx_neg c_3 hf
          refine lv_aload_n hx hb dX7_rests_22 rfl (lv_at hl 0 rfl) ?_
          obtain ⟨r_6, I_6, h_6, hf⟩ := zx_b hf
          refine zx_calli (va_runV (As := []) (rest := []) ⟨hx, hb, hml, hown, hts⟩ (mX7_pass l D ad cA I r_6 I_6 h_6 _) (cwV 0 hts gX7_rests_X7_pass rfl rfl rfl hd_X7_pass ⟨Nat.le_of_ble_eq_true rfl, Nat.le_of_ble_eq_true rfl⟩) (zx_preV hG shM_0 vc_7) rfl rfl hl.1 rfl (lv_room (Nat.le_of_ble_eq_true rfl)) dX7_rests_23 ⟨Nat.le_refl _, Nat.le_refl _⟩) hG (fun H locs hG => ?_)
          refine lv_if_le (tgt := 35) hx hb dX7_rests_26 (by decide) (fun c_7 => ?_) (fun c_7 => ?_)
          · have hf := zx_pos c_7 hf
            refine lv_aload_n hx hb dX7_rests_35 rfl (lv_at hl 0 rfl) ?_
            obtain ⟨I_8, h_8, hf⟩ := zx_v hf
            refine zx_callv (va_runV (As := []) (rest := []) ⟨hx, hb, hml, hown, hts⟩ (mX7_putBack l D ad cA I_6 I_8 h_8 _) (cwV 0 hts gX7_rests_X7_putBack rfl rfl rfl hd_X7_putBack ⟨Nat.le_of_ble_eq_true rfl, Nat.le_of_ble_eq_true rfl⟩) (zx_preV hG shM_0 vc_7) rfl rfl hl.1 rfl (lv_room (Nat.le_of_ble_eq_true rfl)) dX7_rests_36 ⟨Nat.le_refl _, Nat.le_refl _⟩) hG (fun H locs hG => ?_)
            refine lv_iload_n hx hb dX7_rests_39 rfl (lv_at hl 1 rfl) ?_
            refine lv_bipush (v := (60 : Int32)) hx hb dX7_rests_40 (by decide) ?_
            refine lv_icmp_gt (tgt := 49) hx hb dX7_rests_42 (by decide) (fun c_9 => ?_) (fun c_9 => ?_)
            · have hf := zx_pos c_9 hf
              refine lv_bipush (v := (-9 : Int32)) hx hb dX7_rests_49 (by decide) ?_
              exact zx_iret hx hb hr hlocks rfl hG hf dX7_rests_51
            · have hf := zx_neg c_9 hf
              refine lv_iload_n hx hb dX7_rests_45 rfl (lv_at hl 1 rfl) ?_
              refine lv_goto (tgt := 51) hx hb dX7_rests_46 (by decide) ?_
              exact zx_iret hx hb hr hlocks rfl hG hf dX7_rests_51
          · have hf := zx_neg c_7 hf
            refine lv_iinc (v := (v1 + (1 : Int32))) (lv' := [(1, .int (v1 + (1 : Int32))), (0, .ref (ad 0))]) hx hb dX7_rests_29 hl (k := 1) rfl (congrArg (HAdd.hAdd v1) (by decide)) (by decide) rfl (fun ls hl => ?_)
            refine lv_goto (tgt := 16) hx hb dX7_rests_32 (by decide) ?_
            exact ih16 (v1 + (1 : Int32)) I_6 _ _ ls hf hG (lv_sub hl [1, 0] rfl)
    exact loop16 _ (0 : Int32) I_2 _ _ ls hf hG (lv_sub hl [1, 0] rfl)
  · have hf := zx_pos c_1 hf
    refine lv_bipush (v := (-3 : Int32)) hx hb dX7_rests_7 (by decide) ?_
    exact zx_iret hx hb hr hlocks rfl hG hf dX7_rests_9

set_option maxHeartbeats 4000000 in
set_option maxRecDepth 100000 in
theorem mX7_clears (l : Launch) (D : va_G) (ad : Nat → Nat) (cA : Nat → ClassId) (x1 : Int32) (x2 : Int32) (I : zxI) (r : Int32) (J : zxI) (hf : fX7_clears x1 x2 I = some (r, J)) (sz : Nat) : Met l yX7_clears wsX7_clears { frames := 2, cells := 0, slots := 0, locals := 45 } (va_Pc [.ref (ad 0), .int x1, .int x2] (zxPre D shM ad cA I sz)) (va_Qi (fun (r2 : Int32) (I2 : zxI) => r2 = r ∧ I2 = J) (zxPost D shM ad cA sz) (zxA shM ad sz)) 0 0 (zxA shM ad sz) := by
  refine zx_start (by decide) rfl (Nat.le_of_ble_eq_true rfl) ?_
  intro p e s m args below meth c ls hx hb hr hts hown hlocks hml hG hl
  have hl : lv_has ls 4 [(0, .ref (ad 0)), (1, .int x1), (2, .int x2)] := hl
  have hiX7 : ∀ w ∈ wsX70, w ∈ wsX7_clears := fun w h => List.mem_cons_of_mem _ (List.mem_append_right _ h)
  have L1 := hts (Cond.fieldLink RX7 25 "GalleryBirdsModel" "foulNow" "[I") (List.mem_of_getElem? (i := 1) rfl)
  unfold fX7_clears at hf
  refine lv_aload_n hx hb dX7_clears_0 rfl (lv_at hl 0 rfl) ?_
  refine lv_iload_n hx hb dX7_clears_1 rfl (lv_at hl 1 rfl) ?_
  obtain ⟨r_1, I_1, h_1, hf⟩ := zx_b hf
  refine zx_calli (va_runV (As := [.int x1]) (rest := []) ⟨hx, hb, hml, hown, hts⟩ (mX7_isGallery l D ad cA x1 I r_1 I_1 h_1 _) (cwV 1 hts gX7_clears_X7_isGallery rfl rfl rfl hd_X7_isGallery ⟨Nat.le_of_ble_eq_true rfl, Nat.le_of_ble_eq_true rfl⟩) (zx_preV hG shM_0 vc_7) rfl rfl hl.1 rfl (lv_room (Nat.le_of_ble_eq_true rfl)) dX7_clears_2 ⟨Nat.le_refl _, Nat.le_refl _⟩) hG (fun H locs hG => ?_)
  refine lv_if_ne (tgt := 10) hx hb dX7_clears_5 (by decide) (fun c_2 => ?_) (fun c_2 => ?_)
  · have hf := zx_neg c_2 hf
    refine lv_iload_n hx hb dX7_clears_10 rfl (lv_at hl 2 rfl) ?_
    refine lv_iconst (v := (0 : Int32)) hx hb dX7_clears_11 (by decide) ?_
    refine lv_bipush (v := (40 : Int32)) hx hb dX7_clears_12 (by decide) ?_
    obtain ⟨r_3, I_3, h_3, hf⟩ := zx_b hf
    refine zx_calli (va_runS (As := [.int x2, .int (0 : Int32), .int (40 : Int32)]) (rest := []) ⟨hx, hb, hml, hown, hts⟩ (mX7_within l D ad cA x2 (0 : Int32) (40 : Int32) I_1 r_3 I_3 h_3 _) (va_cwS 3 hts gX7_clears_X7_within rfl rfl rfl hd_X7_within ⟨Nat.le_of_ble_eq_true rfl, Nat.le_of_ble_eq_true rfl⟩) (zx_preS hG) rfl rfl hl.1 rfl (lv_room (Nat.le_of_ble_eq_true rfl)) dX7_clears_14 ⟨Nat.le_refl _, Nat.le_refl _⟩) hG (fun H locs hG => ?_)
    refine lv_if_ne (tgt := 23) hx hb dX7_clears_17 (by decide) (fun c_4 => ?_) (fun c_4 => ?_)
    · have hf := zx_neg c_4 hf
      refine lv_aload_n hx hb dX7_clears_23 rfl (lv_at hl 0 rfl) ?_
      obtain ⟨I_5, h_5, hf⟩ := zx_v hf
      refine zx_callv (va_runV (As := []) (rest := []) ⟨hx, hb, hml, hown, hts⟩ (mX7_keep l D ad cA I_3 I_5 h_5 _) (cwV 0 hts gX7_clears_X7_keep rfl rfl rfl hd_X7_keep ⟨Nat.le_of_ble_eq_true rfl, Nat.le_of_ble_eq_true rfl⟩) (zx_preV hG shM_0 vc_7) rfl rfl hl.1 rfl (lv_room (Nat.le_of_ble_eq_true rfl)) dX7_clears_24 ⟨Nat.le_refl _, Nat.le_refl _⟩) hG (fun H locs hG => ?_)
      refine lv_iconst (v := (0 : Int32)) hx hb dX7_clears_27 (by decide) ?_
      refine lv_istore_n (lv' := [(3, .int (0 : Int32)), (0, .ref (ad 0)), (1, .int x1), (2, .int x2)]) hx hb dX7_clears_28 rfl hl (by decide) rfl (fun ls hl => ?_)
      have loop29 : ∀ (n : Nat) (v1 : Int32) (v2 : Int32) (v3 : Int32) (I : zxI) (H : Heap) (locs : List Loc) (ls : Array Slot), fX7_clears_L29 n v1 v2 v3 I = some (r, J) → zxAt D shM ad cA I s sz H locs → lv_has ls 4 [(0, .ref (ad 0)), (1, .int v1), (2, .int v2), (3, .int v3)] → W p l e (headSpec wsX7_clears { frames := 2, cells := 0, slots := 0, locals := 45 }).room s m args below meth c H locs 0 0 (MQ below (va_Qi (fun (r2 : Int32) (I2 : zxI) => r2 = r ∧ I2 = J) (zxPost D shM ad cA sz) (zxA shM ad sz)) args s 0 0 (zxA shM ad sz)) (F0 m 29 ls []) := by
        intro n
        induction n with
        | zero =>
          intro v1 v2 v3 I H locs ls hf hG hl
          rw [fX7_clears_L29] at hf
          cases hf
        | succ n29 ih29 =>
          intro v1 v2 v3 I H locs ls hf hG hl
          rw [fX7_clears_L29] at hf
          refine lv_iload_n hx hb dX7_clears_29 rfl (lv_at hl 3 rfl) ?_
          refine lv_bipush (v := (60 : Int32)) hx hb dX7_clears_30 (by decide) ?_
          refine lv_icmp_gt (tgt := 56) hx hb dX7_clears_32 (by decide) (fun c_6 => ?_) (fun c_6 => ?_)
          · have hf := zx_pos c_6 hf
            refine lv_aload_n hx hb dX7_clears_56 rfl (lv_at hl 0 rfl) ?_
            obtain ⟨I_7, h_7, hf⟩ := zx_v hf
            refine zx_callv (va_runV (As := []) (rest := []) ⟨hx, hb, hml, hown, hts⟩ (mX7_putBack l D ad cA I I_7 h_7 _) (cwV 0 hts gX7_clears_X7_putBack rfl rfl rfl hd_X7_putBack ⟨Nat.le_of_ble_eq_true rfl, Nat.le_of_ble_eq_true rfl⟩) (zx_preV hG shM_0 vc_7) rfl rfl hl.1 rfl (lv_room (Nat.le_of_ble_eq_true rfl)) dX7_clears_57 ⟨Nat.le_refl _, Nat.le_refl _⟩) hG (fun H locs hG => ?_)
            refine lv_iload_n hx hb dX7_clears_60 rfl (lv_at hl 3 rfl) ?_
            refine lv_bipush (v := (60 : Int32)) hx hb dX7_clears_61 (by decide) ?_
            refine lv_icmp_gt (tgt := 70) hx hb dX7_clears_63 (by decide) (fun c_8 => ?_) (fun c_8 => ?_)
            · have hf := zx_pos c_8 hf
              refine lv_bipush (v := (-9 : Int32)) hx hb dX7_clears_70 (by decide) ?_
              exact zx_iret hx hb hr hlocks rfl hG hf dX7_clears_72
            · have hf := zx_neg c_8 hf
              refine lv_iload_n hx hb dX7_clears_66 rfl (lv_at hl 3 rfl) ?_
              refine lv_goto (tgt := 72) hx hb dX7_clears_67 (by decide) ?_
              exact zx_iret hx hb hr hlocks rfl hG hf dX7_clears_72
          · have hf := zx_neg c_6 hf
            refine lv_aload_n hx hb dX7_clears_35 rfl (lv_at hl 0 rfl) ?_
            refine zx_getR (d := 6) hx hb hts hiX7 hown hG shM_0 vc_7 12 (by decide) rfl L1 dX7_clears_36 ?_
            refine lv_iload_n hx hb dX7_clears_39 rfl (lv_at hl 1 rfl) ?_
            obtain ⟨g_9, hf⟩ := zx_in hf
            refine zx_ald hx hb hG shM_6 g_9 dX7_clears_40 ?_
            refine lv_iload_n hx hb dX7_clears_41 rfl (lv_at hl 2 rfl) ?_
            refine lv_icmp_le (tgt := 56) hx hb dX7_clears_42 (by decide) (fun c_10 => ?_) (fun c_10 => ?_)
            · have hf := zx_pos c_10 hf
              refine lv_aload_n hx hb dX7_clears_56 rfl (lv_at hl 0 rfl) ?_
              obtain ⟨I_11, h_11, hf⟩ := zx_v hf
              refine zx_callv (va_runV (As := []) (rest := []) ⟨hx, hb, hml, hown, hts⟩ (mX7_putBack l D ad cA I I_11 h_11 _) (cwV 0 hts gX7_clears_X7_putBack rfl rfl rfl hd_X7_putBack ⟨Nat.le_of_ble_eq_true rfl, Nat.le_of_ble_eq_true rfl⟩) (zx_preV hG shM_0 vc_7) rfl rfl hl.1 rfl (lv_room (Nat.le_of_ble_eq_true rfl)) dX7_clears_57 ⟨Nat.le_refl _, Nat.le_refl _⟩) hG (fun H locs hG => ?_)
              refine lv_iload_n hx hb dX7_clears_60 rfl (lv_at hl 3 rfl) ?_
              refine lv_bipush (v := (60 : Int32)) hx hb dX7_clears_61 (by decide) ?_
              refine lv_icmp_gt (tgt := 70) hx hb dX7_clears_63 (by decide) (fun c_12 => ?_) (fun c_12 => ?_)
              · have hf := zx_pos c_12 hf
                refine lv_bipush (v := (-9 : Int32)) hx hb dX7_clears_70 (by decide) ?_
                exact zx_iret hx hb hr hlocks rfl hG hf dX7_clears_72
              · have hf := zx_neg c_12 hf
                refine lv_iload_n hx hb dX7_clears_66 rfl (lv_at hl 3 rfl) ?_
                refine lv_goto (tgt := 72) hx hb dX7_clears_67 (by decide) ?_
                exact zx_iret hx hb hr hlocks rfl hG hf dX7_clears_72
            · have hf := zx_neg c_10 hf
              refine lv_aload_n hx hb dX7_clears_45 rfl (lv_at hl 0 rfl) ?_
              obtain ⟨r_13, I_13, h_13, hf⟩ := zx_b hf
              refine zx_calli (va_runV (As := []) (rest := []) ⟨hx, hb, hml, hown, hts⟩ (mX7_pass l D ad cA I r_13 I_13 h_13 _) (cwV 0 hts gX7_clears_X7_pass rfl rfl rfl hd_X7_pass ⟨Nat.le_of_ble_eq_true rfl, Nat.le_of_ble_eq_true rfl⟩) (zx_preV hG shM_0 vc_7) rfl rfl hl.1 rfl (lv_room (Nat.le_of_ble_eq_true rfl)) dX7_clears_46 ⟨Nat.le_refl _, Nat.le_refl _⟩) hG (fun H locs hG => ?_)
              refine lv_pop hx hb dX7_clears_49 rfl ?_
              refine lv_iinc (v := (v3 + (1 : Int32))) (lv' := [(3, .int (v3 + (1 : Int32))), (0, .ref (ad 0)), (1, .int v1), (2, .int v2)]) hx hb dX7_clears_50 hl (k := 3) rfl (congrArg (HAdd.hAdd v3) (by decide)) (by decide) rfl (fun ls hl => ?_)
              refine lv_goto (tgt := 29) hx hb dX7_clears_53 (by decide) ?_
              exact ih29 v1 v2 (v3 + (1 : Int32)) I_13 _ _ ls hf hG (lv_sub hl [1, 2, 3, 0] rfl)
      exact loop29 _ x1 x2 (0 : Int32) I_5 _ _ ls hf hG (lv_sub hl [1, 2, 3, 0] rfl)
    · have hf := zx_pos c_4 hf
      refine lv_bipush (v := (-2 : Int32)) hx hb dX7_clears_20 (by decide) ?_
      exact zx_iret hx hb hr hlocks rfl hG hf dX7_clears_22
  · have hf := zx_pos c_2 hf
    refine lv_iconst (v := (-1 : Int32)) hx hb dX7_clears_8 (by decide) ?_
    exact zx_iret hx hb hr hlocks rfl hG hf dX7_clears_9

set_option maxHeartbeats 4000000 in
set_option maxRecDepth 100000 in
theorem mX7_findPerches (l : Launch) (D : va_G) (ad : Nat → Nat) (cA : Nat → ClassId) (I : zxI) (r : Int32) (J : zxI) (hf : fX7_findPerches I = some (r, J)) (sz : Nat) : Met l yX7_findPerches wsX7_findPerches { frames := 2, cells := 0, slots := 0, locals := 49 } (va_Pc [.ref (ad 0)] (zxPre D shM ad cA I sz)) (va_Qi (fun (r2 : Int32) (I2 : zxI) => r2 = r ∧ I2 = J) (zxPost D shM ad cA sz) (zxA shM ad sz)) 0 0 (zxA shM ad sz) := by
  refine zx_start (by decide) rfl (Nat.le_of_ble_eq_true rfl) ?_
  intro p e s m args below meth c ls hx hb hr hts hown hlocks hml hG hl
  have hl : lv_has ls 5 [(0, .ref (ad 0))] := hl
  have hiX7 : ∀ w ∈ wsX70, w ∈ wsX7_findPerches := fun w h => List.mem_cons_of_mem _ (List.mem_append_right _ h)
  have L1 := hts (Cond.fieldLink RX7 65 "GalleryBirdsModel" "galleries" "I") (List.mem_of_getElem? (i := 1) rfl)
  have L2 := hts (Cond.fieldLink RX7 43 "GalleryBirdsModel" "perched" "[I") (List.mem_of_getElem? (i := 4) rfl)
  have L3 := hts (Cond.fieldLink RX7 40 "GalleryBirdsModel" "row" "[I") (List.mem_of_getElem? (i := 3) rfl)
  have L4 := hts (Cond.fieldLink RX7 25 "GalleryBirdsModel" "foulNow" "[I") (List.mem_of_getElem? (i := 2) rfl)
  unfold fX7_findPerches at hf
  refine lv_bipush (v := (-9 : Int32)) hx hb dX7_findPerches_0 (by decide) ?_
  refine lv_istore_n (lv' := [(1, .int (-9 : Int32)), (0, .ref (ad 0))]) hx hb dX7_findPerches_2 rfl hl (by decide) rfl (fun ls hl => ?_)
  refine lv_iconst (v := (0 : Int32)) hx hb dX7_findPerches_3 (by decide) ?_
  refine lv_istore_n (lv' := [(2, .int (0 : Int32)), (1, .int (-9 : Int32)), (0, .ref (ad 0))]) hx hb dX7_findPerches_4 rfl hl (by decide) rfl (fun ls hl => ?_)
  have loop5 : ∀ (n : Nat) (v1 : Int32) (v2 : Int32) (I : zxI) (H : Heap) (locs : List Loc) (ls : Array Slot), fX7_findPerches_L5 n v1 v2 I = some (r, J) → zxAt D shM ad cA I s sz H locs → lv_has ls 5 [(0, .ref (ad 0)), (1, .int v1), (2, .int v2)] → W p l e (headSpec wsX7_findPerches { frames := 2, cells := 0, slots := 0, locals := 49 }).room s m args below meth c H locs 0 0 (MQ below (va_Qi (fun (r2 : Int32) (I2 : zxI) => r2 = r ∧ I2 = J) (zxPost D shM ad cA sz) (zxA shM ad sz)) args s 0 0 (zxA shM ad sz)) (F0 m 5 ls []) := by
    intro n
    induction n with
    | zero =>
      intro v1 v2 I H locs ls hf hG hl
      rw [fX7_findPerches_L5] at hf
      cases hf
    | succ n5 ih5 =>
      intro v1 v2 I H locs ls hf hG hl
      rw [fX7_findPerches_L5] at hf
      refine lv_iload_n hx hb dX7_findPerches_5 rfl (lv_at hl 2 rfl) ?_
      refine lv_aload_n hx hb dX7_findPerches_6 rfl (lv_at hl 0 rfl) ?_
      refine zx_getI hx hb hts hiX7 hown hG shM_0 vc_7 5 (by decide) rfl L1 dX7_findPerches_7 ?_
      obtain ⟨r_1, I_1, h_1, hf⟩ := zx_b hf
      refine zx_calli (va_runS (As := [.int (I 0 5)]) (rest := [.int v2]) ⟨hx, hb, hml, hown, hts⟩ (mX7_ordersOf l D ad cA (I 0 5) I r_1 I_1 h_1 _) (va_cwS 1 hts gX7_findPerches_X7_ordersOf rfl rfl rfl hd_X7_ordersOf ⟨Nat.le_of_ble_eq_true rfl, Nat.le_of_ble_eq_true rfl⟩) (zx_preS hG) rfl rfl hl.1 rfl (lv_room (Nat.le_of_ble_eq_true rfl)) dX7_findPerches_10 ⟨Nat.le_refl _, Nat.le_refl _⟩) hG (fun H locs hG => ?_)
      refine lv_icmp_ge (tgt := 119) hx hb dX7_findPerches_13 (by decide) (fun c_2 => ?_) (fun c_2 => ?_)
      · have hf := zx_pos c_2 hf
        refine lv_iload_n hx hb dX7_findPerches_119 rfl (lv_at hl 1 rfl) ?_
        exact zx_iret hx hb hr hlocks rfl hG hf dX7_findPerches_120
      · have hf := zx_neg c_2 hf
        refine lv_aload_n hx hb dX7_findPerches_16 rfl (lv_at hl 0 rfl) ?_
        refine lv_iload_n hx hb dX7_findPerches_17 rfl (lv_at hl 2 rfl) ?_
        refine lv_aload_n hx hb dX7_findPerches_18 rfl (lv_at hl 0 rfl) ?_
        refine zx_getI hx hb hts hiX7 hown hG shM_0 vc_7 5 (by decide) rfl L1 dX7_findPerches_19 ?_
        obtain ⟨I_3, h_3, hf⟩ := zx_v hf
        refine zx_callv (va_runV (As := [.int v2, .int (I_1 0 5)]) (rest := []) ⟨hx, hb, hml, hown, hts⟩ (mX7_orderOf l D ad cA v2 (I_1 0 5) I_1 I_3 h_3 _) (cwV 2 hts gX7_findPerches_X7_orderOf rfl rfl rfl hd_X7_orderOf ⟨Nat.le_of_ble_eq_true rfl, Nat.le_of_ble_eq_true rfl⟩) (zx_preV hG shM_0 vc_7) rfl rfl hl.1 rfl (lv_room (Nat.le_of_ble_eq_true rfl)) dX7_findPerches_22 ⟨Nat.le_refl _, Nat.le_refl _⟩) hG (fun H locs hG => ?_)
        refine lv_iconst (v := (0 : Int32)) hx hb dX7_findPerches_25 (by decide) ?_
        refine lv_istore_n (lv' := [(3, .int (0 : Int32)), (0, .ref (ad 0)), (1, .int v1), (2, .int v2)]) hx hb dX7_findPerches_26 rfl hl (by decide) rfl (fun ls hl => ?_)
        refine lv_iconst (v := (0 : Int32)) hx hb dX7_findPerches_27 (by decide) ?_
        refine lv_istore (lv' := [(4, .int (0 : Int32)), (3, .int (0 : Int32)), (0, .ref (ad 0)), (1, .int v1), (2, .int v2)]) hx hb dX7_findPerches_28 hl (by decide) rfl (fun ls hl => ?_)
        have loop30 : ∀ (n : Nat) (v1 : Int32) (v2 : Int32) (v3 : Int32) (v4 : Int32) (I : zxI) (H : Heap) (locs : List Loc) (ls : Array Slot), fX7_findPerches_L30 (fun a0 a1 I => (fX7_findPerches_L5 n5 a0 a1 I)) n v1 v2 v3 v4 I = some (r, J) → zxAt D shM ad cA I s sz H locs → lv_has ls 5 [(0, .ref (ad 0)), (1, .int v1), (2, .int v2), (3, .int v3), (4, .int v4)] → W p l e (headSpec wsX7_findPerches { frames := 2, cells := 0, slots := 0, locals := 49 }).room s m args below meth c H locs 0 0 (MQ below (va_Qi (fun (r2 : Int32) (I2 : zxI) => r2 = r ∧ I2 = J) (zxPost D shM ad cA sz) (zxA shM ad sz)) args s 0 0 (zxA shM ad sz)) (F0 m 30 ls []) := by
          intro n
          induction n with
          | zero =>
            intro v1 v2 v3 v4 I H locs ls hf hG hl
            rw [fX7_findPerches_L30] at hf
            cases hf
          | succ n30 ih30 =>
            intro v1 v2 v3 v4 I H locs ls hf hG hl
            rw [fX7_findPerches_L30] at hf
            refine lv_iload hx hb dX7_findPerches_30 (lv_at hl 4 rfl) ?_
            refine lv_aload_n hx hb dX7_findPerches_32 rfl (lv_at hl 0 rfl) ?_
            refine zx_getI hx hb hts hiX7 hown hG shM_0 vc_7 5 (by decide) rfl L1 dX7_findPerches_33 ?_
            refine lv_icmp_ge (tgt := 74) hx hb dX7_findPerches_36 (by decide) (fun c_4 => ?_) (fun c_4 => ?_)
            · have hf := zx_pos c_4 hf
              refine lv_iload_n hx hb dX7_findPerches_74 rfl (lv_at hl 3 rfl) ?_
              refine lv_iload_n hx hb dX7_findPerches_75 rfl (lv_at hl 1 rfl) ?_
              refine lv_icmp_le (tgt := 113) hx hb dX7_findPerches_76 (by decide) (fun c_5 => ?_) (fun c_5 => ?_)
              · have hf := zx_pos c_5 hf
                refine lv_iinc (v := (v2 + (1 : Int32))) (lv' := [(2, .int (v2 + (1 : Int32))), (0, .ref (ad 0)), (1, .int v1), (3, .int v3), (4, .int v4)]) hx hb dX7_findPerches_113 hl (k := 2) rfl (congrArg (HAdd.hAdd v2) (by decide)) (by decide) rfl (fun ls hl => ?_)
                refine lv_goto (tgt := 5) hx hb dX7_findPerches_116 (by decide) ?_
                exact ih5 v1 (v2 + (1 : Int32)) I _ _ ls hf hG (lv_sub hl [1, 2, 0] rfl)
              · have hf := zx_neg c_5 hf
                refine lv_iload_n hx hb dX7_findPerches_79 rfl (lv_at hl 3 rfl) ?_
                refine lv_istore_n (lv' := [(1, .int v3), (0, .ref (ad 0)), (2, .int v2), (3, .int v3), (4, .int v4)]) hx hb dX7_findPerches_80 rfl hl (by decide) rfl (fun ls hl => ?_)
                refine lv_iconst (v := (0 : Int32)) hx hb dX7_findPerches_81 (by decide) ?_
                refine lv_istore (lv' := [(4, .int (0 : Int32)), (1, .int v3), (0, .ref (ad 0)), (2, .int v2), (3, .int v3)]) hx hb dX7_findPerches_82 hl (by decide) rfl (fun ls hl => ?_)
                have loop84 : ∀ (n : Nat) (v1 : Int32) (v2 : Int32) (v4 : Int32) (I : zxI) (H : Heap) (locs : List Loc) (ls : Array Slot), fX7_findPerches_L84 (fun a0 a1 I => (fX7_findPerches_L5 n5 a0 a1 I)) n v1 v2 v4 I = some (r, J) → zxAt D shM ad cA I s sz H locs → lv_has ls 5 [(0, .ref (ad 0)), (1, .int v1), (2, .int v2), (4, .int v4)] → W p l e (headSpec wsX7_findPerches { frames := 2, cells := 0, slots := 0, locals := 49 }).room s m args below meth c H locs 0 0 (MQ below (va_Qi (fun (r2 : Int32) (I2 : zxI) => r2 = r ∧ I2 = J) (zxPost D shM ad cA sz) (zxA shM ad sz)) args s 0 0 (zxA shM ad sz)) (F0 m 84 ls []) := by
                  intro n
                  induction n with
                  | zero =>
                    intro v1 v2 v4 I H locs ls hf hG hl
                    rw [fX7_findPerches_L84] at hf
                    cases hf
                  | succ n84 ih84 =>
                    intro v1 v2 v4 I H locs ls hf hG hl
                    rw [fX7_findPerches_L84] at hf
                    refine lv_iload hx hb dX7_findPerches_84 (lv_at hl 3 rfl) ?_
                    refine lv_aload_n hx hb dX7_findPerches_86 rfl (lv_at hl 0 rfl) ?_
                    refine zx_getI hx hb hts hiX7 hown hG shM_0 vc_7 5 (by decide) rfl L1 dX7_findPerches_87 ?_
                    refine lv_icmp_ge (tgt := 113) hx hb dX7_findPerches_90 (by decide) (fun c_6 => ?_) (fun c_6 => ?_)
                    · have hf := zx_pos c_6 hf
                      refine lv_iinc (v := (v2 + (1 : Int32))) (lv' := [(2, .int (v2 + (1 : Int32))), (0, .ref (ad 0)), (1, .int v1), (4, .int v4)]) hx hb dX7_findPerches_113 hl (k := 2) rfl (congrArg (HAdd.hAdd v2) (by decide)) (by decide) rfl (fun ls hl => ?_)
                      refine lv_goto (tgt := 5) hx hb dX7_findPerches_116 (by decide) ?_
                      exact ih5 v1 (v2 + (1 : Int32)) I _ _ ls hf hG (lv_sub hl [1, 2, 0] rfl)
                    · have hf := zx_neg c_6 hf
                      refine lv_aload_n hx hb dX7_findPerches_93 rfl (lv_at hl 0 rfl) ?_
                      refine zx_getR (d := 12) hx hb hts hiX7 hown hG shM_0 vc_7 24 (by decide) rfl L2 dX7_findPerches_94 ?_
                      refine lv_iload hx hb dX7_findPerches_97 (lv_at hl 3 rfl) ?_
                      refine lv_aload_n hx hb dX7_findPerches_99 rfl (lv_at hl 0 rfl) ?_
                      refine zx_getR (d := 11) hx hb hts hiX7 hown hG shM_0 vc_7 23 (by decide) rfl L3 dX7_findPerches_100 ?_
                      refine lv_iload hx hb dX7_findPerches_103 (lv_at hl 3 rfl) ?_
                      obtain ⟨g_7, hf⟩ := zx_in hf
                      refine zx_ald hx hb hG shM_11 g_7 dX7_findPerches_105 ?_
                      refine zx_ast hx hb hG shM_12 g_7 dX7_findPerches_106 (fun H locs hG => ?_)
                      refine lv_iinc (v := (v4 + (1 : Int32))) (lv' := [(4, .int (v4 + (1 : Int32))), (0, .ref (ad 0)), (1, .int v1), (2, .int v2)]) hx hb dX7_findPerches_107 hl (k := 3) rfl (congrArg (HAdd.hAdd v4) (by decide)) (by decide) rfl (fun ls hl => ?_)
                      refine lv_goto (tgt := 84) hx hb dX7_findPerches_110 (by decide) ?_
                      exact ih84 v1 v2 (v4 + (1 : Int32)) (zxU I 12 v4.toNatClampNeg (I 11 v4.toNatClampNeg)) _ _ ls hf hG (lv_sub hl [1, 2, 3, 0] rfl)
                exact loop84 _ v3 v2 (0 : Int32) I _ _ ls hf hG (lv_sub hl [2, 1, 3, 0] rfl)
            · have hf := zx_neg c_4 hf
              refine lv_iload_n hx hb dX7_findPerches_39 rfl (lv_at hl 3 rfl) ?_
              refine lv_aload_n hx hb dX7_findPerches_40 rfl (lv_at hl 0 rfl) ?_
              refine zx_getR (d := 6) hx hb hts hiX7 hown hG shM_0 vc_7 12 (by decide) rfl L4 dX7_findPerches_41 ?_
              refine lv_iload hx hb dX7_findPerches_44 (lv_at hl 4 rfl) ?_
              obtain ⟨g_9, hf⟩ := zx_in hf
              refine zx_ald hx hb hG shM_6 g_9 dX7_findPerches_46 ?_
              refine lv_aload_n hx hb dX7_findPerches_47 rfl (lv_at hl 0 rfl) ?_
              refine lv_aload_n hx hb dX7_findPerches_48 rfl (lv_at hl 0 rfl) ?_
              refine zx_getR (d := 11) hx hb hts hiX7 hown hG shM_0 vc_7 23 (by decide) rfl L3 dX7_findPerches_49 ?_
              refine lv_iload hx hb dX7_findPerches_52 (lv_at hl 4 rfl) ?_
              refine zx_ald hx hb hG shM_11 g_9 dX7_findPerches_54 ?_
              obtain ⟨r_11, I_11, h_11, hf⟩ := zx_b hf
              refine zx_calli (va_runV (As := [.int (I 11 v4.toNatClampNeg)]) (rest := [.int (I 6 v4.toNatClampNeg), .int v3]) ⟨hx, hb, hml, hown, hts⟩ (mX7_bearsOf l D ad cA (I 11 v4.toNatClampNeg) I r_11 I_11 h_11 _) (cwV 1 hts gX7_findPerches_X7_bearsOf rfl rfl rfl hd_X7_bearsOf ⟨Nat.le_of_ble_eq_true rfl, Nat.le_of_ble_eq_true rfl⟩) (zx_preV hG shM_0 vc_7) rfl rfl hl.1 rfl (lv_room (Nat.le_of_ble_eq_true rfl)) dX7_findPerches_55 ⟨Nat.le_refl _, Nat.le_refl _⟩) hG (fun H locs hG => ?_)
              refine lv_icmp_gt (tgt := 65) hx hb dX7_findPerches_58 (by decide) (fun c_12 => ?_) (fun c_12 => ?_)
              · have hf := zx_pos c_12 hf
                refine lv_iconst (v := (0 : Int32)) hx hb dX7_findPerches_65 (by decide) ?_
                refine lv_iadd hx hb dX7_findPerches_66 ?_
                refine lv_istore_n (lv' := [(3, .int (v3 + (0 : Int32))), (0, .ref (ad 0)), (1, .int v1), (2, .int v2), (4, .int v4)]) hx hb dX7_findPerches_67 rfl hl (by decide) rfl (fun ls hl => ?_)
                refine lv_iinc (v := (v4 + (1 : Int32))) (lv' := [(4, .int (v4 + (1 : Int32))), (3, .int (v3 + (0 : Int32))), (0, .ref (ad 0)), (1, .int v1), (2, .int v2)]) hx hb dX7_findPerches_68 hl (k := 4) rfl (congrArg (HAdd.hAdd v4) (by decide)) (by decide) rfl (fun ls hl => ?_)
                refine lv_goto (tgt := 30) hx hb dX7_findPerches_71 (by decide) ?_
                exact ih30 v1 v2 (v3 + (0 : Int32)) (v4 + (1 : Int32)) I_11 _ _ ls hf hG (lv_sub hl [2, 3, 4, 1, 0] rfl)
              · have hf := zx_neg c_12 hf
                refine lv_iconst (v := (1 : Int32)) hx hb dX7_findPerches_61 (by decide) ?_
                refine lv_goto (tgt := 66) hx hb dX7_findPerches_62 (by decide) ?_
                refine lv_iadd hx hb dX7_findPerches_66 ?_
                refine lv_istore_n (lv' := [(3, .int (v3 + (1 : Int32))), (0, .ref (ad 0)), (1, .int v1), (2, .int v2), (4, .int v4)]) hx hb dX7_findPerches_67 rfl hl (by decide) rfl (fun ls hl => ?_)
                refine lv_iinc (v := (v4 + (1 : Int32))) (lv' := [(4, .int (v4 + (1 : Int32))), (3, .int (v3 + (1 : Int32))), (0, .ref (ad 0)), (1, .int v1), (2, .int v2)]) hx hb dX7_findPerches_68 hl (k := 4) rfl (congrArg (HAdd.hAdd v4) (by decide)) (by decide) rfl (fun ls hl => ?_)
                refine lv_goto (tgt := 30) hx hb dX7_findPerches_71 (by decide) ?_
                exact ih30 v1 v2 (v3 + (1 : Int32)) (v4 + (1 : Int32)) I_11 _ _ ls hf hG (lv_sub hl [2, 3, 4, 1, 0] rfl)
        exact loop30 _ v1 v2 (0 : Int32) (0 : Int32) I_3 _ _ ls hf hG (lv_sub hl [2, 3, 4, 1, 0] rfl)
  exact loop5 _ (-9 : Int32) (0 : Int32) I _ _ ls hf hG (lv_sub hl [2, 1, 0] rfl)

set_option maxHeartbeats 4000000 in
set_option maxRecDepth 100000 in
theorem mX7_perches (l : Launch) (D : va_G) (ad : Nat → Nat) (cA : Nat → ClassId) (x1 : Int32) (I : zxI) (r : Int32) (J : zxI) (hf : fX7_perches x1 I = some (r, J)) (sz : Nat) : Met l yX7_perches wsX7_perches { frames := 3, cells := 0, slots := 0, locals := 73 } (va_Pc [.ref (ad 0), .int x1] (zxPre D shM ad cA I sz)) (va_Qi (fun (r2 : Int32) (I2 : zxI) => r2 = r ∧ I2 = J) (zxPost D shM ad cA sz) (zxA shM ad sz)) 0 0 (zxA shM ad sz) := by
  refine zx_start (by decide) rfl (Nat.le_of_ble_eq_true rfl) ?_
  intro p e s m args below meth c ls hx hb hr hts hown hlocks hml hG hl
  have hl : lv_has ls 3 [(0, .ref (ad 0)), (1, .int x1)] := hl
  have hiX7 : ∀ w ∈ wsX70, w ∈ wsX7_perches := fun w h => List.mem_cons_of_mem _ (List.mem_append_right _ h)
  have L1 := hts (Cond.fieldLink RX7 65 "GalleryBirdsModel" "galleries" "I") (List.mem_of_getElem? (i := 1) rfl)
  have L2 := hts (Cond.fieldLink RX7 43 "GalleryBirdsModel" "perched" "[I") (List.mem_of_getElem? (i := 2) rfl)
  unfold fX7_perches at hf
  refine lv_iload_n hx hb dX7_perches_0 rfl (lv_at hl 1 rfl) ?_
  refine lv_iconst (v := (-1 : Int32)) hx hb dX7_perches_1 (by decide) ?_
  refine lv_iconst (v := (5 : Int32)) hx hb dX7_perches_2 (by decide) ?_
  obtain ⟨r_1, I_1, h_1, hf⟩ := zx_b hf
  refine zx_calli (va_runS (As := [.int x1, .int (-1 : Int32), .int (5 : Int32)]) (rest := []) ⟨hx, hb, hml, hown, hts⟩ (mX7_within l D ad cA x1 (-1 : Int32) (5 : Int32) I r_1 I_1 h_1 _) (va_cwS 3 hts gX7_perches_X7_within rfl rfl rfl hd_X7_within ⟨Nat.le_of_ble_eq_true rfl, Nat.le_of_ble_eq_true rfl⟩) (zx_preS hG) rfl rfl hl.1 rfl (lv_room (Nat.le_of_ble_eq_true rfl)) dX7_perches_3 ⟨Nat.le_refl _, Nat.le_refl _⟩) hG (fun H locs hG => ?_)
  refine lv_if_ne (tgt := 12) hx hb dX7_perches_6 (by decide) (fun c_2 => ?_) (fun c_2 => ?_)
  · have hf := zx_neg c_2 hf
    refine lv_aload_n hx hb dX7_perches_12 rfl (lv_at hl 0 rfl) ?_
    refine zx_getI hx hb hts hiX7 hown hG shM_0 vc_7 5 (by decide) rfl L1 dX7_perches_13 ?_
    refine lv_if_ne (tgt := 22) hx hb dX7_perches_16 (by decide) (fun c_3 => ?_) (fun c_3 => ?_)
    · have hf := zx_neg c_3 hf
      refine lv_aload_n hx hb dX7_perches_22 rfl (lv_at hl 0 rfl) ?_
      obtain ⟨r_4, I_4, h_4, hf⟩ := zx_b hf
      refine zx_calli (va_runV (As := []) (rest := []) ⟨hx, hb, hml, hown, hts⟩ (mX7_findPerches l D ad cA I_1 r_4 I_4 h_4 _) (cwV 0 hts gX7_perches_X7_findPerches rfl rfl rfl hd_X7_findPerches ⟨Nat.le_of_ble_eq_true rfl, Nat.le_of_ble_eq_true rfl⟩) (zx_preV hG shM_0 vc_7) rfl rfl hl.1 rfl (lv_room (Nat.le_of_ble_eq_true rfl)) dX7_perches_23 ⟨Nat.le_refl _, Nat.le_refl _⟩) hG (fun H locs hG => ?_)
      refine lv_istore_n (lv' := [(2, .int r_4), (0, .ref (ad 0)), (1, .int x1)]) hx hb dX7_perches_26 rfl hl (by decide) rfl (fun ls hl => ?_)
      refine lv_iload_n hx hb dX7_perches_27 rfl (lv_at hl 2 rfl) ?_
      refine lv_iconst (v := (-1 : Int32)) hx hb dX7_perches_28 (by decide) ?_
      refine lv_icmp_ne (tgt := 36) hx hb dX7_perches_29 (by decide) (fun c_5 => ?_) (fun c_5 => ?_)
      · have hf := zx_neg c_5 hf
        refine lv_aload_n hx hb dX7_perches_36 rfl (lv_at hl 1 rfl) ?_
        refine lv_iload_n hx hb dX7_perches_37 rfl (lv_at hl 2 rfl) ?_
        obtain ⟨r_6, I_6, h_6, hf⟩ := zx_b hf
        refine zx_calli (va_runV (As := [.int x1]) (rest := []) ⟨hx, hb, hml, hown, hts⟩ (mX7_isGallery l D ad cA x1 I_4 r_6 I_6 h_6 _) (cwV 1 hts gX7_perches_X7_isGallery rfl rfl rfl hd_X7_isGallery ⟨Nat.le_of_ble_eq_true rfl, Nat.le_of_ble_eq_true rfl⟩) (zx_preV hG shM_0 vc_7) rfl rfl hl.1 rfl (lv_room (Nat.le_of_ble_eq_true rfl)) dX7_perches_38 ⟨Nat.le_refl _, Nat.le_refl _⟩) hG (fun H locs hG => ?_)
        refine lv_if_eq (tgt := 53) hx hb dX7_perches_41 (by decide) (fun c_7 => ?_) (fun c_7 => ?_)
        · have hf := zx_pos c_7 hf
          refine lv_bipush (v := (-9 : Int32)) hx hb dX7_perches_53 (by decide) ?_
          exact zx_iret hx hb hr hlocks rfl hG hf dX7_perches_55
        · have hf := zx_neg c_7 hf
          refine lv_aload_n hx hb dX7_perches_44 rfl (lv_at hl 1 rfl) ?_
          refine zx_getR (d := 12) hx hb hts hiX7 hown hG shM_0 vc_7 24 (by decide) rfl L2 dX7_perches_45 ?_
          refine lv_iload_n hx hb dX7_perches_48 rfl (lv_at hl 2 rfl) ?_
          obtain ⟨g_8, hf⟩ := zx_in hf
          refine zx_ald hx hb hG shM_12 g_8 dX7_perches_49 ?_
          refine lv_goto (tgt := 55) hx hb dX7_perches_50 (by decide) ?_
          exact zx_iret hx hb hr hlocks rfl hG hf dX7_perches_55
      · have hf := zx_pos c_5 hf
        refine lv_iload_n hx hb dX7_perches_32 rfl (lv_at hl 0 rfl) ?_
        refine lv_goto (tgt := 55) hx hb dX7_perches_33 (by decide) ?_
        exact zx_iret hx hb hr hlocks rfl hG hf dX7_perches_55
    · have hf := zx_pos c_3 hf
      refine lv_bipush (v := (-3 : Int32)) hx hb dX7_perches_19 (by decide) ?_
      exact zx_iret hx hb hr hlocks rfl hG hf dX7_perches_21
  · have hf := zx_pos c_2 hf
    refine lv_bipush (v := (-2 : Int32)) hx hb dX7_perches_9 (by decide) ?_
    exact zx_iret hx hb hr hlocks rfl hG hf dX7_perches_11
