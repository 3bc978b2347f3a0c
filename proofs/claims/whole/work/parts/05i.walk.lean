/-! walks of methods (laid by wip/whole/gen.py) -/
set_option maxHeartbeats 4000000 in
set_option maxRecDepth 100000 in
theorem mX7_isFound (l : Launch) (D : va_G) (ad : Nat → Nat) (cA : Nat → ClassId) (x1 : Int32) (x2 : Int32) (x3 : Int32) (I : zxI) (r : Int32) (J : zxI) (hf : fX7_isFound x1 x2 x3 I = some (r, J)) (sz : Nat) : Met l yX7_isFound wsX7_isFound { frames := 4, cells := 0, slots := 0, locals := 86 } (va_Pc [.ref (ad 0), .int x1, .int x2, .int x3] (zxPre D shM ad cA I sz)) (va_Qi (fun (r2 : Int32) (I2 : zxI) => r2 = r ∧ I2 = J) (zxPost D shM ad cA sz) (zxA shM ad sz)) 0 0 (zxA shM ad sz) := by
  refine zx_start (by decide) rfl (Nat.le_of_ble_eq_true rfl) ?_
  intro p e s m args below meth c ls hx hb hr hts hown hlocks hml hG hl
  have hl : lv_has ls 6 [(0, .ref (ad 0)), (1, .int x1), (2, .int x2), (3, .int x3)] := hl
  have hiX7 : ∀ w ∈ wsX70, w ∈ wsX7_isFound := fun w h => List.mem_cons_of_mem _ (List.mem_append_right _ h)
  have L1 := hts (Cond.fieldLink RX7 65 "GalleryBirdsModel" "galleries" "I") (List.mem_of_getElem? (i := 1) rfl)
  have L2 := hts (Cond.fieldLink RX7 25 "GalleryBirdsModel" "foulNow" "[I") (List.mem_of_getElem? (i := 2) rfl)
  have L3 := hts (Cond.fieldLink RX7 16 "GalleryBirdsModel" "cells" "[I") (List.mem_of_getElem? (i := 3) rfl)
  unfold fX7_isFound at hf
  refine lv_aload_n hx hb dX7_isFound_0 rfl (lv_at hl 0 rfl) ?_
  obtain ⟨I_1, h_1, hf⟩ := zx_v hf
  refine zx_callv (va_runV (As := []) (rest := []) ⟨hx, hb, hml, hown, hts⟩ (mX7_keep l D ad cA I I_1 h_1 _) (cwV 0 hts gX7_isFound_X7_keep rfl rfl rfl hd_X7_keep ⟨Nat.le_of_ble_eq_true rfl, Nat.le_of_ble_eq_true rfl⟩) (zx_preV hG shM_0 vc_7) rfl rfl hl.1 rfl (lv_room (Nat.le_of_ble_eq_true rfl)) dX7_isFound_1 ⟨Nat.le_refl _, Nat.le_refl _⟩) hG (fun H locs hG => ?_)
  refine lv_aload_n hx hb dX7_isFound_4 rfl (lv_at hl 0 rfl) ?_
  refine lv_iload_n hx hb dX7_isFound_5 rfl (lv_at hl 2 rfl) ?_
  refine lv_iload_n hx hb dX7_isFound_6 rfl (lv_at hl 3 rfl) ?_
  obtain ⟨r_2, I_2, h_2, hf⟩ := zx_b hf
  refine zx_calli (va_runV (As := [.int x2, .int x3]) (rest := []) ⟨hx, hb, hml, hown, hts⟩ (mX7_breathe l D ad cA x2 x3 I_1 r_2 I_2 h_2 _) (cwV 2 hts gX7_isFound_X7_breathe rfl rfl rfl hd_X7_breathe ⟨Nat.le_of_ble_eq_true rfl, Nat.le_of_ble_eq_true rfl⟩) (zx_preV hG shM_0 vc_7) rfl rfl hl.1 rfl (lv_room (Nat.le_of_ble_eq_true rfl)) dX7_isFound_7 ⟨Nat.le_refl _, Nat.le_refl _⟩) hG (fun H locs hG => ?_)
  refine lv_pop hx hb dX7_isFound_10 rfl ?_
  refine lv_iconst (v := (1 : Int32)) hx hb dX7_isFound_11 (by decide) ?_
  refine lv_istore (lv' := [(4, .int (1 : Int32)), (0, .ref (ad 0)), (1, .int x1), (2, .int x2), (3, .int x3)]) hx hb dX7_isFound_12 hl (by decide) rfl (fun ls hl => ?_)
  refine lv_iconst (v := (0 : Int32)) hx hb dX7_isFound_14 (by decide) ?_
  refine lv_istore (lv' := [(5, .int (0 : Int32)), (4, .int (1 : Int32)), (0, .ref (ad 0)), (1, .int x1), (2, .int x2), (3, .int x3)]) hx hb dX7_isFound_15 hl (by decide) rfl (fun ls hl => ?_)
  have loop17 : ∀ (n : Nat) (v1 : Int32) (v4 : Int32) (v5 : Int32) (I : zxI) (H : Heap) (locs : List Loc) (ls : Array Slot), fX7_isFound_L17 n v1 v4 v5 I = some (r, J) → zxAt D shM ad cA I s sz H locs → lv_has ls 6 [(0, .ref (ad 0)), (1, .int v1), (4, .int v4), (5, .int v5)] → W p l e (headSpec wsX7_isFound { frames := 4, cells := 0, slots := 0, locals := 86 }).room s m args below meth c H locs 0 0 (MQ below (va_Qi (fun (r2 : Int32) (I2 : zxI) => r2 = r ∧ I2 = J) (zxPost D shM ad cA sz) (zxA shM ad sz)) args s 0 0 (zxA shM ad sz)) (F0 m 17 ls []) := by
    intro n
    induction n with
    | zero =>
      intro v1 v4 v5 I H locs ls hf hG hl
      rw [fX7_isFound_L17] at hf
      cases hf
    | succ n17 ih17 =>
      intro v1 v4 v5 I H locs ls hf hG hl
      rw [fX7_isFound_L17] at hf
      refine lv_iload hx hb dX7_isFound_17 (lv_at hl 3 rfl) ?_
      refine lv_aload_n hx hb dX7_isFound_19 rfl (lv_at hl 0 rfl) ?_
      refine zx_getI hx hb hts hiX7 hown hG shM_0 vc_7 5 (by decide) rfl L1 dX7_isFound_20 ?_
      refine lv_icmp_ge (tgt := 63) hx hb dX7_isFound_23 (by decide) (fun c_3 => ?_) (fun c_3 => ?_)
      · have hf := zx_pos c_3 hf
        refine lv_aload_n hx hb dX7_isFound_63 rfl (lv_at hl 0 rfl) ?_
        obtain ⟨I_4, h_4, hf⟩ := zx_v hf
        refine zx_callv (va_runV (As := []) (rest := []) ⟨hx, hb, hml, hown, hts⟩ (mX7_putBack l D ad cA I I_4 h_4 _) (cwV 0 hts gX7_isFound_X7_putBack rfl rfl rfl hd_X7_putBack ⟨Nat.le_of_ble_eq_true rfl, Nat.le_of_ble_eq_true rfl⟩) (zx_preV hG shM_0 vc_7) rfl rfl hl.1 rfl (lv_room (Nat.le_of_ble_eq_true rfl)) dX7_isFound_64 ⟨Nat.le_refl _, Nat.le_refl _⟩) hG (fun H locs hG => ?_)
        refine lv_iload hx hb dX7_isFound_67 (lv_at hl 2 rfl) ?_
        obtain ⟨g_5, hf⟩ := zx_gd hf
        exact zx_iret hx hb hr hlocks (zx_nz g_5) hG hf dX7_isFound_69
      · have hf := zx_neg c_3 hf
        refine lv_iload hx hb dX7_isFound_26 (lv_at hl 2 rfl) ?_
        refine lv_if_eq (tgt := 54) hx hb dX7_isFound_28 (by decide) (fun c_6 => ?_) (fun c_6 => ?_)
        · have hf := zx_pos c_6 hf
          refine lv_iconst (v := (0 : Int32)) hx hb dX7_isFound_54 (by decide) ?_
          refine lv_istore (lv' := [(4, .int (0 : Int32)), (0, .ref (ad 0)), (1, .int v1), (5, .int v5)]) hx hb dX7_isFound_55 hl (by decide) rfl (fun ls hl => ?_)
          refine lv_iinc (v := (v5 + (1 : Int32))) (lv' := [(5, .int (v5 + (1 : Int32))), (4, .int (0 : Int32)), (0, .ref (ad 0)), (1, .int v1)]) hx hb dX7_isFound_57 hl (k := 3) rfl (congrArg (HAdd.hAdd v5) (by decide)) (by decide) rfl (fun ls hl => ?_)
          refine lv_goto (tgt := 17) hx hb dX7_isFound_60 (by decide) ?_
          exact ih17 v1 (0 : Int32) (v5 + (1 : Int32)) I _ _ ls hf hG (lv_sub hl [2, 3, 1, 0] rfl)
        · have hf := zx_neg c_6 hf
          refine lv_aload_n hx hb dX7_isFound_31 rfl (lv_at hl 0 rfl) ?_
          refine zx_getR (d := 6) hx hb hts hiX7 hown hG shM_0 vc_7 12 (by decide) rfl L2 dX7_isFound_32 ?_
          refine lv_iload hx hb dX7_isFound_35 (lv_at hl 3 rfl) ?_
          obtain ⟨g_7, hf⟩ := zx_in hf
          refine zx_ald hx hb hG shM_6 g_7 dX7_isFound_37 ?_
          refine lv_aload_n hx hb dX7_isFound_38 rfl (lv_at hl 0 rfl) ?_
          refine zx_getR (d := 3) hx hb hts hiX7 hown hG shM_0 vc_7 4 (by decide) rfl L3 dX7_isFound_39 ?_
          refine lv_iload_n hx hb dX7_isFound_42 rfl (lv_at hl 1 rfl) ?_
          refine lv_iload hx hb dX7_isFound_43 (lv_at hl 3 rfl) ?_
          refine lv_iadd hx hb dX7_isFound_45 ?_
          obtain ⟨g_8, hf⟩ := zx_in hf
          refine zx_ald hx hb hG shM_3 g_8 dX7_isFound_46 ?_
          refine lv_icmp_ne (tgt := 54) hx hb dX7_isFound_47 (by decide) (fun c_9 => ?_) (fun c_9 => ?_)
          · have hf := zx_neg c_9 hf
            refine lv_iconst (v := (0 : Int32)) hx hb dX7_isFound_54 (by decide) ?_
            refine lv_istore (lv' := [(4, .int (0 : Int32)), (0, .ref (ad 0)), (1, .int v1), (5, .int v5)]) hx hb dX7_isFound_55 hl (by decide) rfl (fun ls hl => ?_)
            refine lv_iinc (v := (v5 + (1 : Int32))) (lv' := [(5, .int (v5 + (1 : Int32))), (4, .int (0 : Int32)), (0, .ref (ad 0)), (1, .int v1)]) hx hb dX7_isFound_57 hl (k := 3) rfl (congrArg (HAdd.hAdd v5) (by decide)) (by decide) rfl (fun ls hl => ?_)
            refine lv_goto (tgt := 17) hx hb dX7_isFound_60 (by decide) ?_
            exact ih17 v1 (0 : Int32) (v5 + (1 : Int32)) I _ _ ls hf hG (lv_sub hl [2, 3, 1, 0] rfl)
          · have hf := zx_pos c_9 hf
            refine lv_iconst (v := (1 : Int32)) hx hb dX7_isFound_50 (by decide) ?_
            refine lv_goto (tgt := 55) hx hb dX7_isFound_51 (by decide) ?_
            refine lv_istore (lv' := [(4, .int (1 : Int32)), (0, .ref (ad 0)), (1, .int v1), (5, .int v5)]) hx hb dX7_isFound_55 hl (by decide) rfl (fun ls hl => ?_)
            refine lv_iinc (v := (v5 + (1 : Int32))) (lv' := [(5, .int (v5 + (1 : Int32))), (4, .int (1 : Int32)), (0, .ref (ad 0)), (1, .int v1)]) hx hb dX7_isFound_57 hl (k := 3) rfl (congrArg (HAdd.hAdd v5) (by decide)) (by decide) rfl (fun ls hl => ?_)
            refine lv_goto (tgt := 17) hx hb dX7_isFound_60 (by decide) ?_
            exact ih17 v1 (1 : Int32) (v5 + (1 : Int32)) I _ _ ls hf hG (lv_sub hl [2, 3, 1, 0] rfl)
  exact loop17 _ x1 (1 : Int32) (0 : Int32) I_2 _ _ ls hf hG (lv_sub hl [2, 3, 1, 0] rfl)

set_option maxHeartbeats 4000000 in
set_option maxRecDepth 100000 in
theorem mX7_found (l : Launch) (D : va_G) (ad : Nat → Nat) (cA : Nat → ClassId) (x1 : Int32) (x2 : Int32) (x3 : Int32) (x4 : Int32) (I : zxI) (r : Int32) (J : zxI) (hf : fX7_found x1 x2 x3 x4 I = some (r, J)) (sz : Nat) : Met l yX7_found wsX7_found { frames := 5, cells := 0, slots := 0, locals := 111 } (va_Pc [.ref (ad 0), .int x1, .int x2, .int x3, .int x4] (zxPre D shM ad cA I sz)) (va_Qi (fun (r2 : Int32) (I2 : zxI) => r2 = r ∧ I2 = J) (zxPost D shM ad cA sz) (zxA shM ad sz)) 0 0 (zxA shM ad sz) := by
  refine zx_start (by decide) rfl (Nat.le_of_ble_eq_true rfl) ?_
  intro p e s m args below meth c ls hx hb hr hts hown hlocks hml hG hl
  have hl : lv_has ls 8 [(0, .ref (ad 0)), (1, .int x1), (2, .int x2), (3, .int x3), (4, .int x4)] := hl
  have hiX7 : ∀ w ∈ wsX70, w ∈ wsX7_found := fun w h => List.mem_cons_of_mem _ (List.mem_append_right _ h)
  have L1 := hts (Cond.fieldLink RX7 55 "GalleryBirdsModel" "fault" "I") (List.mem_of_getElem? (i := 1) rfl)
  have L2 := hts (Cond.fieldLink RX7 65 "GalleryBirdsModel" "galleries" "I") (List.mem_of_getElem? (i := 2) rfl)
  have L3 := hts (Cond.fieldLink RX7 68 "GalleryBirdsModel" "words" "I") (List.mem_of_getElem? (i := 3) rfl)
  unfold fX7_found at hf
  refine lv_aload_n hx hb dX7_found_0 rfl (lv_at hl 0 rfl) ?_
  refine lv_iconst (v := (0 : Int32)) hx hb dX7_found_1 (by decide) ?_
  refine zx_putI hx hb hts hiX7 tyX7 tyX7_ok nmX7 hown hG shM_0 vc_7 0 (by decide) rfl L1 rfl (ty := .int) (tyX7_ok 0 (by decide)) rfl rfl dX7_found_2 (fun H locs hG => ?_)
  refine lv_iload_n hx hb dX7_found_5 rfl (lv_at hl 1 rfl) ?_
  obtain ⟨r_1, I_1, h_1, hf⟩ := zx_b hf
  refine zx_calli (va_runS (As := [.int x1]) (rest := []) ⟨hx, hb, hml, hown, hts⟩ (mX7_isSheet l D ad cA x1 (zxU I 0 0 (0 : Int32)) r_1 I_1 h_1 _) (va_cwS 1 hts gX7_found_X7_isSheet rfl rfl rfl hd_X7_isSheet ⟨Nat.le_of_ble_eq_true rfl, Nat.le_of_ble_eq_true rfl⟩) (zx_preS hG) rfl rfl hl.1 rfl (lv_room (Nat.le_of_ble_eq_true rfl)) dX7_found_6 ⟨Nat.le_refl _, Nat.le_refl _⟩) hG (fun H locs hG => ?_)
  refine lv_if_ne (tgt := 14) hx hb dX7_found_9 (by decide) (fun c_2 => ?_) (fun c_2 => ?_)
  · have hf := zx_neg c_2 hf
    refine lv_iload_n hx hb dX7_found_14 rfl (lv_at hl 2 rfl) ?_
    obtain ⟨r_3, I_3, h_3, hf⟩ := zx_b hf
    refine zx_calli (va_runS (As := [.int x2]) (rest := []) ⟨hx, hb, hml, hown, hts⟩ (mX7_isSort l D ad cA x2 I_1 r_3 I_3 h_3 _) (va_cwS 1 hts gX7_found_X7_isSort rfl rfl rfl hd_X7_isSort ⟨Nat.le_of_ble_eq_true rfl, Nat.le_of_ble_eq_true rfl⟩) (zx_preS hG) rfl rfl hl.1 rfl (lv_room (Nat.le_of_ble_eq_true rfl)) dX7_found_15 ⟨Nat.le_refl _, Nat.le_refl _⟩) hG (fun H locs hG => ?_)
    refine lv_if_eq (tgt := 32) hx hb dX7_found_18 (by decide) (fun c_4 => ?_) (fun c_4 => ?_)
    · have hf := zx_pos c_4 hf
      refine lv_bipush (v := (-2 : Int32)) hx hb dX7_found_32 (by decide) ?_
      exact zx_iret hx hb hr hlocks rfl hG hf dX7_found_34
    · have hf := zx_neg c_4 hf
      refine lv_iload hx hb dX7_found_21 (lv_at hl 4 rfl) ?_
      refine lv_iconst (v := (-1 : Int32)) hx hb dX7_found_23 (by decide) ?_
      refine lv_bipush (v := (23 : Int32)) hx hb dX7_found_24 (by decide) ?_
      obtain ⟨r_5, I_5, h_5, hf⟩ := zx_b hf
      refine zx_calli (va_runS (As := [.int x4, .int (-1 : Int32), .int (23 : Int32)]) (rest := []) ⟨hx, hb, hml, hown, hts⟩ (mX7_within l D ad cA x4 (-1 : Int32) (23 : Int32) I_3 r_5 I_5 h_5 _) (va_cwS 3 hts gX7_found_X7_within rfl rfl rfl hd_X7_within ⟨Nat.le_of_ble_eq_true rfl, Nat.le_of_ble_eq_true rfl⟩) (zx_preS hG) rfl rfl hl.1 rfl (lv_room (Nat.le_of_ble_eq_true rfl)) dX7_found_26 ⟨Nat.le_refl _, Nat.le_refl _⟩) hG (fun H locs hG => ?_)
      refine lv_if_ne (tgt := 35) hx hb dX7_found_29 (by decide) (fun c_6 => ?_) (fun c_6 => ?_)
      · have hf := zx_neg c_6 hf
        refine lv_aload_n hx hb dX7_found_35 rfl (lv_at hl 0 rfl) ?_
        refine zx_getI hx hb hts hiX7 hown hG shM_0 vc_7 5 (by decide) rfl L2 dX7_found_36 ?_
        refine lv_if_ne (tgt := 45) hx hb dX7_found_39 (by decide) (fun c_7 => ?_) (fun c_7 => ?_)
        · have hf := zx_neg c_7 hf
          refine lv_aload_n hx hb dX7_found_45 rfl (lv_at hl 0 rfl) ?_
          refine lv_iload_n hx hb dX7_found_46 rfl (lv_at hl 1 rfl) ?_
          refine lv_iload_n hx hb dX7_found_47 rfl (lv_at hl 2 rfl) ?_
          refine lv_iload_n hx hb dX7_found_48 rfl (lv_at hl 3 rfl) ?_
          refine lv_aload_n hx hb dX7_found_49 rfl (lv_at hl 0 rfl) ?_
          refine zx_getI hx hb hts hiX7 hown hG shM_0 vc_7 5 (by decide) rfl L2 dX7_found_50 ?_
          obtain ⟨r_8, I_8, h_8, hf⟩ := zx_b hf
          refine zx_calli (va_runV (As := [.int x1, .int x2, .int x3, .int (I_5 0 5)]) (rest := []) ⟨hx, hb, hml, hown, hts⟩ (mX7_against l D ad cA x1 x2 x3 (I_5 0 5) I_5 r_8 I_8 h_8 _) (cwV 4 hts gX7_found_X7_against rfl rfl rfl hd_X7_against ⟨Nat.le_of_ble_eq_true rfl, Nat.le_of_ble_eq_true rfl⟩) (zx_preV hG shM_0 vc_7) rfl rfl hl.1 rfl (lv_room (Nat.le_of_ble_eq_true rfl)) dX7_found_53 ⟨Nat.le_refl _, Nat.le_refl _⟩) hG (fun H locs hG => ?_)
          refine lv_istore (lv' := [(5, .int r_8), (0, .ref (ad 0)), (1, .int x1), (2, .int x2), (3, .int x3), (4, .int x4)]) hx hb dX7_found_56 hl (by decide) rfl (fun ls hl => ?_)
          refine lv_iload hx hb dX7_found_58 (lv_at hl 0 rfl) ?_
          refine lv_if_eq (tgt := 70) hx hb dX7_found_60 (by decide) (fun c_9 => ?_) (fun c_9 => ?_)
          · have hf := zx_pos c_9 hf
            refine lv_iconst (v := (0 : Int32)) hx hb dX7_found_70 (by decide) ?_
            refine lv_istore (lv' := [(6, .int (0 : Int32)), (5, .int r_8), (0, .ref (ad 0)), (1, .int x1), (2, .int x2), (3, .int x3), (4, .int x4)]) hx hb dX7_found_71 hl (by decide) rfl (fun ls hl => ?_)
            refine lv_iconst (v := (0 : Int32)) hx hb dX7_found_73 (by decide) ?_
            refine lv_istore (lv' := [(7, .int (0 : Int32)), (6, .int (0 : Int32)), (5, .int r_8), (0, .ref (ad 0)), (1, .int x1), (2, .int x2), (3, .int x3), (4, .int x4)]) hx hb dX7_found_74 hl (by decide) rfl (fun ls hl => ?_)
            have loop76 : ∀ (n : Nat) (v1 : Int32) (v3 : Int32) (v4 : Int32) (v6 : Int32) (v7 : Int32) (I : zxI) (H : Heap) (locs : List Loc) (ls : Array Slot), fX7_found_L76 n v1 v3 v4 v6 v7 I = some (r, J) → zxAt D shM ad cA I s sz H locs → lv_has ls 8 [(0, .ref (ad 0)), (1, .int v1), (3, .int v3), (4, .int v4), (6, .int v6), (7, .int v7)] → W p l e (headSpec wsX7_found { frames := 5, cells := 0, slots := 0, locals := 111 }).room s m args below meth c H locs 0 0 (MQ below (va_Qi (fun (r2 : Int32) (I2 : zxI) => r2 = r ∧ I2 = J) (zxPost D shM ad cA sz) (zxA shM ad sz)) args s 0 0 (zxA shM ad sz)) (F0 m 76 ls []) := by
              intro n
              induction n with
              | zero =>
                intro v1 v3 v4 v6 v7 I H locs ls hf hG hl
                rw [fX7_found_L76] at hf
                cases hf
              | succ n76 ih76 =>
                intro v1 v3 v4 v6 v7 I H locs ls hf hG hl
                rw [fX7_found_L76] at hf
                refine lv_iload hx hb dX7_found_76 (lv_at hl 5 rfl) ?_
                refine lv_aload_n hx hb dX7_found_78 rfl (lv_at hl 0 rfl) ?_
                refine zx_getI hx hb hts hiX7 hown hG shM_0 vc_7 5 (by decide) rfl L2 dX7_found_79 ?_
                refine lv_aload_n hx hb dX7_found_82 rfl (lv_at hl 0 rfl) ?_
                refine zx_getI hx hb hts hiX7 hown hG shM_0 vc_7 6 (by decide) rfl L3 dX7_found_83 ?_
                refine lv_imul hx hb dX7_found_86 ?_
                refine lv_icmp_ge (tgt := 152) hx hb dX7_found_87 (by decide) (fun c_10 => ?_) (fun c_10 => ?_)
                · have hf := zx_pos c_10 hf
                  refine lv_iload hx hb dX7_found_152 (lv_at hl 3 rfl) ?_
                  refine lv_iconst (v := (-1 : Int32)) hx hb dX7_found_154 (by decide) ?_
                  refine lv_icmp_ne (tgt := 163) hx hb dX7_found_155 (by decide) (fun c_11 => ?_) (fun c_11 => ?_)
                  · have hf := zx_neg c_11 hf
                    refine lv_bipush (v := (-9 : Int32)) hx hb dX7_found_163 (by decide) ?_
                    exact zx_iret hx hb hr hlocks rfl hG hf dX7_found_165
                  · have hf := zx_pos c_11 hf
                    refine lv_iload hx hb dX7_found_158 (lv_at hl 4 rfl) ?_
                    refine lv_goto (tgt := 165) hx hb dX7_found_160 (by decide) ?_
                    exact zx_iret hx hb hr hlocks rfl hG hf dX7_found_165
                · have hf := zx_neg c_10 hf
                  refine lv_aload_n hx hb dX7_found_90 rfl (lv_at hl 0 rfl) ?_
                  refine lv_bipush (v := (60 : Int32)) hx hb dX7_found_91 (by decide) ?_
                  refine lv_iload_n hx hb dX7_found_93 rfl (lv_at hl 1 rfl) ?_
                  refine lv_imul hx hb dX7_found_94 ?_
                  refine lv_iload_n hx hb dX7_found_95 rfl (lv_at hl 2 rfl) ?_
                  refine lv_iadd hx hb dX7_found_96 ?_
                  refine lv_iload hx hb dX7_found_97 (lv_at hl 5 rfl) ?_
                  refine lv_aload_n hx hb dX7_found_99 rfl (lv_at hl 0 rfl) ?_
                  refine zx_getI hx hb hts hiX7 hown hG shM_0 vc_7 6 (by decide) rfl L3 dX7_found_100 ?_
                  obtain ⟨g_12, hf⟩ := zx_gd hf
                  refine lv_idiv hx hb dX7_found_103 g_12 ?_
                  refine lv_iload hx hb dX7_found_104 (lv_at hl 5 rfl) ?_
                  refine lv_aload_n hx hb dX7_found_106 rfl (lv_at hl 0 rfl) ?_
                  refine zx_getI hx hb hts hiX7 hown hG shM_0 vc_7 6 (by decide) rfl L3 dX7_found_107 ?_
                  refine lv_irem hx hb dX7_found_110 g_12 ?_
                  obtain ⟨r_14, I_14, h_14, hf⟩ := zx_b hf
                  refine zx_calli (va_runV (As := [.int (((60 : Int32) * v1) + v3), .int (v7 / (I 0 6)), .int (v7 - v7 / (I 0 6) * (I 0 6))]) (rest := []) ⟨hx, hb, hml, hown, hts⟩ (mX7_isFound l D ad cA (((60 : Int32) * v1) + v3) (v7 / (I 0 6)) (v7 - v7 / (I 0 6) * (I 0 6)) I r_14 I_14 h_14 _) (cwV 3 hts gX7_found_X7_isFound rfl rfl rfl hd_X7_isFound ⟨Nat.le_of_ble_eq_true rfl, Nat.le_of_ble_eq_true rfl⟩) (zx_preV hG shM_0 vc_7) rfl rfl hl.1 rfl (lv_room (Nat.le_of_ble_eq_true rfl)) dX7_found_111 ⟨Nat.le_refl _, Nat.le_refl _⟩) hG (fun H locs hG => ?_)
                  refine lv_if_eq (tgt := 146) hx hb dX7_found_114 (by decide) (fun c_15 => ?_) (fun c_15 => ?_)
                  · have hf := zx_pos c_15 hf
                    refine lv_iinc (v := (v7 + (1 : Int32))) (lv' := [(7, .int (v7 + (1 : Int32))), (0, .ref (ad 0)), (1, .int v1), (3, .int v3), (4, .int v4), (6, .int v6)]) hx hb dX7_found_146 hl (k := 5) rfl (congrArg (HAdd.hAdd v7) (by decide)) (by decide) rfl (fun ls hl => ?_)
                    refine lv_goto (tgt := 76) hx hb dX7_found_149 (by decide) ?_
                    exact ih76 v1 v3 v4 v6 (v7 + (1 : Int32)) I_14 _ _ ls hf hG (lv_sub hl [1, 2, 3, 4, 5, 0] rfl)
                  · have hf := zx_neg c_15 hf
                    refine lv_iload hx hb dX7_found_117 (lv_at hl 4 rfl) ?_
                    refine lv_iload hx hb dX7_found_119 (lv_at hl 3 rfl) ?_
                    refine lv_icmp_ne (tgt := 143) hx hb dX7_found_121 (by decide) (fun c_16 => ?_) (fun c_16 => ?_)
                    · have hf := zx_neg c_16 hf
                      refine lv_iinc (v := (v6 + (1 : Int32))) (lv' := [(6, .int (v6 + (1 : Int32))), (0, .ref (ad 0)), (1, .int v1), (3, .int v3), (4, .int v4), (7, .int v7)]) hx hb dX7_found_143 hl (k := 4) rfl (congrArg (HAdd.hAdd v6) (by decide)) (by decide) rfl (fun ls hl => ?_)
                      refine lv_iinc (v := (v7 + (1 : Int32))) (lv' := [(7, .int (v7 + (1 : Int32))), (6, .int (v6 + (1 : Int32))), (0, .ref (ad 0)), (1, .int v1), (3, .int v3), (4, .int v4)]) hx hb dX7_found_146 hl (k := 5) rfl (congrArg (HAdd.hAdd v7) (by decide)) (by decide) rfl (fun ls hl => ?_)
                      refine lv_goto (tgt := 76) hx hb dX7_found_149 (by decide) ?_
                      exact ih76 v1 v3 v4 (v6 + (1 : Int32)) (v7 + (1 : Int32)) I_14 _ _ ls hf hG (lv_sub hl [2, 3, 4, 5, 1, 0] rfl)
                    · have hf := zx_pos c_16 hf
                      refine lv_bipush (v := (10 : Int32)) hx hb dX7_found_124 (by decide) ?_
                      refine lv_iload hx hb dX7_found_126 (lv_at hl 5 rfl) ?_
                      refine lv_aload_n hx hb dX7_found_128 rfl (lv_at hl 0 rfl) ?_
                      refine zx_getI hx hb hts hiX7 hown hG shM_0 vc_7 6 (by decide) rfl L3 dX7_found_129 ?_
                      obtain ⟨g_17, hf⟩ := zx_gd hf
                      refine lv_idiv hx hb dX7_found_132 g_17 ?_
                      refine lv_imul hx hb dX7_found_133 ?_
                      refine lv_iload hx hb dX7_found_134 (lv_at hl 5 rfl) ?_
                      refine lv_aload_n hx hb dX7_found_136 rfl (lv_at hl 0 rfl) ?_
                      refine zx_getI hx hb hts hiX7 hown hG shM_0 vc_7 6 (by decide) rfl L3 dX7_found_137 ?_
                      refine lv_irem hx hb dX7_found_140 g_17 ?_
                      refine lv_iadd hx hb dX7_found_141 ?_
                      exact zx_iret hx hb hr hlocks rfl hG hf dX7_found_142
            exact loop76 _ x1 x3 x4 (0 : Int32) (0 : Int32) I_8 _ _ ls hf hG (lv_sub hl [3, 4, 6, 7, 1, 0] rfl)
          · have hf := zx_neg c_9 hf
            refine lv_aload_n hx hb dX7_found_63 rfl (lv_at hl 1 rfl) ?_
            refine lv_iload hx hb dX7_found_64 (lv_at hl 0 rfl) ?_
            obtain ⟨r_19, I_19, h_19, hf⟩ := zx_b hf
            refine zx_calli (va_runV (As := [.int r_8]) (rest := []) ⟨hx, hb, hml, hown, hts⟩ (mX7_fails l D ad cA r_8 I_8 r_19 I_19 h_19 _) (cwV 1 hts gX7_found_X7_fails rfl rfl rfl hd_X7_fails ⟨Nat.le_of_ble_eq_true rfl, Nat.le_of_ble_eq_true rfl⟩) (zx_preV hG shM_0 vc_7) rfl rfl hl.1 rfl (lv_room (Nat.le_of_ble_eq_true rfl)) dX7_found_66 ⟨Nat.le_refl _, Nat.le_refl _⟩) hG (fun H locs hG => ?_)
            exact zx_iret hx hb hr hlocks rfl hG hf dX7_found_69
        · have hf := zx_pos c_7 hf
          refine lv_bipush (v := (-3 : Int32)) hx hb dX7_found_42 (by decide) ?_
          exact zx_iret hx hb hr hlocks rfl hG hf dX7_found_44
      · have hf := zx_pos c_6 hf
        refine lv_bipush (v := (-2 : Int32)) hx hb dX7_found_32 (by decide) ?_
        exact zx_iret hx hb hr hlocks rfl hG hf dX7_found_34
  · have hf := zx_pos c_2 hf
    refine lv_iconst (v := (-1 : Int32)) hx hb dX7_found_12 (by decide) ?_
    exact zx_iret hx hb hr hlocks rfl hG hf dX7_found_13

set_option maxHeartbeats 4000000 in
set_option maxRecDepth 100000 in
theorem mX7_reading (l : Launch) (D : va_G) (ad : Nat → Nat) (cA : Nat → ClassId) (x1 : Int32) (x2 : Int32) (x3 : Int32) (I : zxI) (r : Int32) (J : zxI) (hf : fX7_reading x1 x2 x3 I = some (r, J)) (sz : Nat) : Met l yX7_reading wsX7_reading { frames := 1, cells := 0, slots := 0, locals := 22 } (va_Pc [.ref (ad 0), .int x1, .int x2, .int x3] (zxPre D shM ad cA I sz)) (va_Qi (fun (r2 : Int32) (I2 : zxI) => r2 = r ∧ I2 = J) (zxPost D shM ad cA sz) (zxA shM ad sz)) 0 0 (zxA shM ad sz) := by
  refine zx_start (by decide) rfl (Nat.le_of_ble_eq_true rfl) ?_
  intro p e s m args below meth c ls hx hb hr hts hown hlocks hml hG hl
  have hl : lv_has ls 4 [(0, .ref (ad 0)), (1, .int x1), (2, .int x2), (3, .int x3)] := hl
  have hiX7 : ∀ w ∈ wsX70, w ∈ wsX7_reading := fun w h => List.mem_cons_of_mem _ (List.mem_append_right _ h)
  have L1 := hts (Cond.fieldLink RX7 110 "GalleryBirdsModel" "readings" "I") (List.mem_of_getElem? (i := 1) rfl)
  have L2 := hts (Cond.fieldLink RX7 46 "GalleryBirdsModel" "readWhere" "[I") (List.mem_of_getElem? (i := 2) rfl)
  have L3 := hts (Cond.fieldLink RX7 49 "GalleryBirdsModel" "readFoul" "[I") (List.mem_of_getElem? (i := 3) rfl)
  have L4 := hts (Cond.fieldLink RX7 52 "GalleryBirdsModel" "readDropped" "[I") (List.mem_of_getElem? (i := 4) rfl)
  unfold fX7_reading at hf
  refine lv_aload_n hx hb dX7_reading_0 rfl (lv_at hl 0 rfl) ?_
  refine lv_iload_n hx hb dX7_reading_1 rfl (lv_at hl 1 rfl) ?_
  obtain ⟨r_1, I_1, h_1, hf⟩ := zx_b hf
  refine zx_calli (va_runV (As := [.int x1]) (rest := []) ⟨hx, hb, hml, hown, hts⟩ (mX7_isGallery l D ad cA x1 I r_1 I_1 h_1 _) (cwV 1 hts gX7_reading_X7_isGallery rfl rfl rfl hd_X7_isGallery ⟨Nat.le_of_ble_eq_true rfl, Nat.le_of_ble_eq_true rfl⟩) (zx_preV hG shM_0 vc_7) rfl rfl hl.1 rfl (lv_room (Nat.le_of_ble_eq_true rfl)) dX7_reading_2 ⟨Nat.le_refl _, Nat.le_refl _⟩) hG (fun H locs hG => ?_)
  refine lv_if_ne (tgt := 10) hx hb dX7_reading_5 (by decide) (fun c_2 => ?_) (fun c_2 => ?_)
  · have hf := zx_neg c_2 hf
    refine lv_iload_n hx hb dX7_reading_10 rfl (lv_at hl 2 rfl) ?_
    refine lv_iconst (v := (0 : Int32)) hx hb dX7_reading_11 (by decide) ?_
    refine lv_bipush (v := (40 : Int32)) hx hb dX7_reading_12 (by decide) ?_
    obtain ⟨r_3, I_3, h_3, hf⟩ := zx_b hf
    refine zx_calli (va_runS (As := [.int x2, .int (0 : Int32), .int (40 : Int32)]) (rest := []) ⟨hx, hb, hml, hown, hts⟩ (mX7_within l D ad cA x2 (0 : Int32) (40 : Int32) I_1 r_3 I_3 h_3 _) (va_cwS 3 hts gX7_reading_X7_within rfl rfl rfl hd_X7_within ⟨Nat.le_of_ble_eq_true rfl, Nat.le_of_ble_eq_true rfl⟩) (zx_preS hG) rfl rfl hl.1 rfl (lv_room (Nat.le_of_ble_eq_true rfl)) dX7_reading_14 ⟨Nat.le_refl _, Nat.le_refl _⟩) hG (fun H locs hG => ?_)
    refine lv_if_eq (tgt := 29) hx hb dX7_reading_17 (by decide) (fun c_4 => ?_) (fun c_4 => ?_)
    · have hf := zx_pos c_4 hf
      refine lv_bipush (v := (-2 : Int32)) hx hb dX7_reading_29 (by decide) ?_
      exact zx_iret hx hb hr hlocks rfl hG hf dX7_reading_31
    · have hf := zx_neg c_4 hf
      refine lv_iload_n hx hb dX7_reading_20 rfl (lv_at hl 3 rfl) ?_
      refine lv_iconst (v := (0 : Int32)) hx hb dX7_reading_21 (by decide) ?_
      refine lv_iconst (v := (1 : Int32)) hx hb dX7_reading_22 (by decide) ?_
      obtain ⟨r_5, I_5, h_5, hf⟩ := zx_b hf
      refine zx_calli (va_runS (As := [.int x3, .int (0 : Int32), .int (1 : Int32)]) (rest := []) ⟨hx, hb, hml, hown, hts⟩ (mX7_within l D ad cA x3 (0 : Int32) (1 : Int32) I_3 r_5 I_5 h_5 _) (va_cwS 3 hts gX7_reading_X7_within rfl rfl rfl hd_X7_within ⟨Nat.le_of_ble_eq_true rfl, Nat.le_of_ble_eq_true rfl⟩) (zx_preS hG) rfl rfl hl.1 rfl (lv_room (Nat.le_of_ble_eq_true rfl)) dX7_reading_23 ⟨Nat.le_refl _, Nat.le_refl _⟩) hG (fun H locs hG => ?_)
      refine lv_if_ne (tgt := 32) hx hb dX7_reading_26 (by decide) (fun c_6 => ?_) (fun c_6 => ?_)
      · have hf := zx_neg c_6 hf
        refine lv_aload_n hx hb dX7_reading_32 rfl (lv_at hl 0 rfl) ?_
        refine zx_getI hx hb hts hiX7 hown hG shM_0 vc_7 25 (by decide) rfl L1 dX7_reading_33 ?_
        refine lv_bipush (v := (8 : Int32)) hx hb dX7_reading_36 (by decide) ?_
        refine lv_icmp_ne (tgt := 44) hx hb dX7_reading_38 (by decide) (fun c_7 => ?_) (fun c_7 => ?_)
        · have hf := zx_neg c_7 hf
          refine lv_aload_n hx hb dX7_reading_44 rfl (lv_at hl 0 rfl) ?_
          refine zx_getR (d := 13) hx hb hts hiX7 hown hG shM_0 vc_7 26 (by decide) rfl L2 dX7_reading_45 ?_
          refine lv_aload_n hx hb dX7_reading_48 rfl (lv_at hl 0 rfl) ?_
          refine zx_getI hx hb hts hiX7 hown hG shM_0 vc_7 25 (by decide) rfl L1 dX7_reading_49 ?_
          refine lv_iload_n hx hb dX7_reading_52 rfl (lv_at hl 1 rfl) ?_
          obtain ⟨g_8, hf⟩ := zx_in hf
          refine zx_ast hx hb hG shM_13 g_8 dX7_reading_53 (fun H locs hG => ?_)
          refine lv_aload_n hx hb dX7_reading_54 rfl (lv_at hl 0 rfl) ?_
          refine zx_getR (d := 14) hx hb hts hiX7 hown hG shM_0 vc_7 27 (by decide) rfl L3 dX7_reading_55 ?_
          refine lv_aload_n hx hb dX7_reading_58 rfl (lv_at hl 0 rfl) ?_
          refine zx_getI hx hb hts hiX7 hown hG shM_0 vc_7 25 (by decide) rfl L1 dX7_reading_59 ?_
          refine lv_iload_n hx hb dX7_reading_62 rfl (lv_at hl 2 rfl) ?_
          obtain ⟨g_9, hf⟩ := zx_in hf
          refine zx_ast hx hb hG shM_14 g_9 dX7_reading_63 (fun H locs hG => ?_)
          refine lv_aload_n hx hb dX7_reading_64 rfl (lv_at hl 0 rfl) ?_
          refine zx_getR (d := 15) hx hb hts hiX7 hown hG shM_0 vc_7 28 (by decide) rfl L4 dX7_reading_65 ?_
          refine lv_aload_n hx hb dX7_reading_68 rfl (lv_at hl 0 rfl) ?_
          refine zx_getI hx hb hts hiX7 hown hG shM_0 vc_7 25 (by decide) rfl L1 dX7_reading_69 ?_
          refine lv_iload_n hx hb dX7_reading_72 rfl (lv_at hl 3 rfl) ?_
          obtain ⟨g_10, hf⟩ := zx_in hf
          refine zx_ast hx hb hG shM_15 g_10 dX7_reading_73 (fun H locs hG => ?_)
          refine lv_aload_n hx hb dX7_reading_74 rfl (lv_at hl 0 rfl) ?_
          refine lv_dup hx hb dX7_reading_75 rfl ?_
          refine zx_getI hx hb hts hiX7 hown hG shM_0 vc_7 25 (by decide) rfl L1 dX7_reading_76 ?_
          refine lv_iconst (v := (1 : Int32)) hx hb dX7_reading_79 (by decide) ?_
          refine lv_iadd hx hb dX7_reading_80 ?_
          refine zx_putI hx hb hts hiX7 tyX7 tyX7_ok nmX7 hown hG shM_0 vc_7 25 (by decide) rfl L1 rfl (ty := .int) (tyX7_ok 25 (by decide)) rfl rfl dX7_reading_81 (fun H locs hG => ?_)
          refine lv_aload_n hx hb dX7_reading_84 rfl (lv_at hl 0 rfl) ?_
          refine zx_getI hx hb hts hiX7 hown hG shM_0 vc_7 25 (by decide) rfl L1 dX7_reading_85 ?_
          refine lv_iconst (v := (1 : Int32)) hx hb dX7_reading_88 (by decide) ?_
          refine lv_isub hx hb dX7_reading_89 ?_
          exact zx_iret hx hb hr hlocks rfl hG hf dX7_reading_90
        · have hf := zx_pos c_7 hf
          refine lv_bipush (v := (-4 : Int32)) hx hb dX7_reading_41 (by decide) ?_
          exact zx_iret hx hb hr hlocks rfl hG hf dX7_reading_43
      · have hf := zx_pos c_6 hf
        refine lv_bipush (v := (-2 : Int32)) hx hb dX7_reading_29 (by decide) ?_
        exact zx_iret hx hb hr hlocks rfl hG hf dX7_reading_31
  · have hf := zx_pos c_2 hf
    refine lv_iconst (v := (-1 : Int32)) hx hb dX7_reading_8 (by decide) ?_
    exact zx_iret hx hb hr hlocks rfl hG hf dX7_reading_9

set_option maxHeartbeats 4000000 in
set_option maxRecDepth 100000 in
theorem mX7_back (l : Launch) (D : va_G) (ad : Nat → Nat) (cA : Nat → ClassId) (x1 : Int32) (I : zxI) (r : Int32) (J : zxI) (hf : fX7_back x1 I = some (r, J)) (sz : Nat) : Met l yX7_back wsX7_back { frames := 1, cells := 0, slots := 0, locals := 22 } (va_Pc [.ref (ad 0), .int x1] (zxPre D shM ad cA I sz)) (va_Qi (fun (r2 : Int32) (I2 : zxI) => r2 = r ∧ I2 = J) (zxPost D shM ad cA sz) (zxA shM ad sz)) 0 0 (zxA shM ad sz) := by
  refine zx_start (by decide) rfl (Nat.le_of_ble_eq_true rfl) ?_
  intro p e s m args below meth c ls hx hb hr hts hown hlocks hml hG hl
  have hl : lv_has ls 2 [(0, .ref (ad 0)), (1, .int x1)] := hl
  have hiX7 : ∀ w ∈ wsX70, w ∈ wsX7_back := fun w h => List.mem_cons_of_mem _ (List.mem_append_right _ h)
  have L1 := hts (Cond.fieldLink RX7 110 "GalleryBirdsModel" "readings" "I") (List.mem_of_getElem? (i := 1) rfl)
  unfold fX7_back at hf
  refine lv_iload_n hx hb dX7_back_0 rfl (lv_at hl 1 rfl) ?_
  refine lv_iconst (v := (0 : Int32)) hx hb dX7_back_1 (by decide) ?_
  refine lv_aload_n hx hb dX7_back_2 rfl (lv_at hl 0 rfl) ?_
  refine zx_getI hx hb hts hiX7 hown hG shM_0 vc_7 25 (by decide) rfl L1 dX7_back_3 ?_
  obtain ⟨r_1, I_1, h_1, hf⟩ := zx_b hf
  refine zx_calli (va_runS (As := [.int x1, .int (0 : Int32), .int (I 0 25)]) (rest := []) ⟨hx, hb, hml, hown, hts⟩ (mX7_within l D ad cA x1 (0 : Int32) (I 0 25) I r_1 I_1 h_1 _) (va_cwS 3 hts gX7_back_X7_within rfl rfl rfl hd_X7_within ⟨Nat.le_of_ble_eq_true rfl, Nat.le_of_ble_eq_true rfl⟩) (zx_preS hG) rfl rfl hl.1 rfl (lv_room (Nat.le_of_ble_eq_true rfl)) dX7_back_6 ⟨Nat.le_refl _, Nat.le_refl _⟩) hG (fun H locs hG => ?_)
  refine lv_if_ne (tgt := 15) hx hb dX7_back_9 (by decide) (fun c_2 => ?_) (fun c_2 => ?_)
  · have hf := zx_neg c_2 hf
    refine lv_aload_n hx hb dX7_back_15 rfl (lv_at hl 0 rfl) ?_
    refine lv_dup hx hb dX7_back_16 rfl ?_
    refine zx_getI hx hb hts hiX7 hown hG shM_0 vc_7 25 (by decide) rfl L1 dX7_back_17 ?_
    refine lv_iload_n hx hb dX7_back_20 rfl (lv_at hl 1 rfl) ?_
    refine lv_isub hx hb dX7_back_21 ?_
    refine zx_putI hx hb hts hiX7 tyX7 tyX7_ok nmX7 hown hG shM_0 vc_7 25 (by decide) rfl L1 rfl (ty := .int) (tyX7_ok 25 (by decide)) rfl rfl dX7_back_22 (fun H locs hG => ?_)
    refine lv_aload_n hx hb dX7_back_25 rfl (lv_at hl 0 rfl) ?_
    refine zx_getI hx hb hts hiX7 hown hG shM_0 vc_7 25 (by decide) rfl L1 dX7_back_26 ?_
    exact zx_iret hx hb hr hlocks rfl hG hf dX7_back_29
  · have hf := zx_pos c_2 hf
    refine lv_bipush (v := (-2 : Int32)) hx hb dX7_back_12 (by decide) ?_
    exact zx_iret hx hb hr hlocks rfl hG hf dX7_back_14

set_option maxHeartbeats 4000000 in
set_option maxRecDepth 100000 in
theorem mX7_areSo (l : Launch) (D : va_G) (ad : Nat → Nat) (cA : Nat → ClassId) (I : zxI) (r : Int32) (J : zxI) (hf : fX7_areSo I = some (r, J)) (sz : Nat) : Met l yX7_areSo wsX7_areSo { frames := 2, cells := 0, slots := 0, locals := 42 } (va_Pc [.ref (ad 0)] (zxPre D shM ad cA I sz)) (va_Qi (fun (r2 : Int32) (I2 : zxI) => r2 = r ∧ I2 = J) (zxPost D shM ad cA sz) (zxA shM ad sz)) 0 0 (zxA shM ad sz) := by
  refine zx_start (by decide) rfl (Nat.le_of_ble_eq_true rfl) ?_
  intro p e s m args below meth c ls hx hb hr hts hown hlocks hml hG hl
  have hl : lv_has ls 3 [(0, .ref (ad 0))] := hl
  have hiX7 : ∀ w ∈ wsX70, w ∈ wsX7_areSo := fun w h => List.mem_cons_of_mem _ (List.mem_append_right _ h)
  have L1 := hts (Cond.fieldLink RX7 110 "GalleryBirdsModel" "readings" "I") (List.mem_of_getElem? (i := 1) rfl)
  have L2 := hts (Cond.fieldLink RX7 49 "GalleryBirdsModel" "readFoul" "[I") (List.mem_of_getElem? (i := 2) rfl)
  have L3 := hts (Cond.fieldLink RX7 46 "GalleryBirdsModel" "readWhere" "[I") (List.mem_of_getElem? (i := 3) rfl)
  have L4 := hts (Cond.fieldLink RX7 52 "GalleryBirdsModel" "readDropped" "[I") (List.mem_of_getElem? (i := 4) rfl)
  unfold fX7_areSo at hf
  refine lv_iconst (v := (0 : Int32)) hx hb dX7_areSo_0 (by decide) ?_
  refine lv_istore_n (lv' := [(1, .int (0 : Int32)), (0, .ref (ad 0))]) hx hb dX7_areSo_1 rfl hl (by decide) rfl (fun ls hl => ?_)
  have loop2 : ∀ (n : Nat) (v1 : Int32) (I : zxI) (H : Heap) (locs : List Loc) (ls : Array Slot), fX7_areSo_L2 n v1 I = some (r, J) → zxAt D shM ad cA I s sz H locs → lv_has ls 3 [(0, .ref (ad 0)), (1, .int v1)] → W p l e (headSpec wsX7_areSo { frames := 2, cells := 0, slots := 0, locals := 42 }).room s m args below meth c H locs 0 0 (MQ below (va_Qi (fun (r2 : Int32) (I2 : zxI) => r2 = r ∧ I2 = J) (zxPost D shM ad cA sz) (zxA shM ad sz)) args s 0 0 (zxA shM ad sz)) (F0 m 2 ls []) := by
    intro n
    induction n with
    | zero =>
      intro v1 I H locs ls hf hG hl
      rw [fX7_areSo_L2] at hf
      cases hf
    | succ n2 ih2 =>
      intro v1 I H locs ls hf hG hl
      rw [fX7_areSo_L2] at hf
      refine lv_iload_n hx hb dX7_areSo_2 rfl (lv_at hl 1 rfl) ?_
      refine lv_aload_n hx hb dX7_areSo_3 rfl (lv_at hl 0 rfl) ?_
      refine zx_getI hx hb hts hiX7 hown hG shM_0 vc_7 25 (by decide) rfl L1 dX7_areSo_4 ?_
      refine lv_icmp_ge (tgt := 53) hx hb dX7_areSo_7 (by decide) (fun c_1 => ?_) (fun c_1 => ?_)
      · have hf := zx_pos c_1 hf
        refine lv_iconst (v := (1 : Int32)) hx hb dX7_areSo_53 (by decide) ?_
        exact zx_iret hx hb hr hlocks rfl hG hf dX7_areSo_54
      · have hf := zx_neg c_1 hf
        refine lv_aload_n hx hb dX7_areSo_10 rfl (lv_at hl 0 rfl) ?_
        refine zx_getR (d := 14) hx hb hts hiX7 hown hG shM_0 vc_7 27 (by decide) rfl L2 dX7_areSo_11 ?_
        refine lv_iload_n hx hb dX7_areSo_14 rfl (lv_at hl 1 rfl) ?_
        obtain ⟨g_2, hf⟩ := zx_in hf
        refine zx_ald hx hb hG shM_14 g_2 dX7_areSo_15 ?_
        refine lv_aload_n hx hb dX7_areSo_16 rfl (lv_at hl 0 rfl) ?_
        refine lv_aload_n hx hb dX7_areSo_17 rfl (lv_at hl 0 rfl) ?_
        refine zx_getR (d := 13) hx hb hts hiX7 hown hG shM_0 vc_7 26 (by decide) rfl L3 dX7_areSo_18 ?_
        refine lv_iload_n hx hb dX7_areSo_21 rfl (lv_at hl 1 rfl) ?_
        refine zx_ald hx hb hG shM_13 g_2 dX7_areSo_22 ?_
        obtain ⟨r_4, I_4, h_4, hf⟩ := zx_b hf
        refine zx_calli (va_runV (As := [.int (I 13 v1.toNatClampNeg)]) (rest := [.int (I 14 v1.toNatClampNeg)]) ⟨hx, hb, hml, hown, hts⟩ (mX7_bearsOf l D ad cA (I 13 v1.toNatClampNeg) I r_4 I_4 h_4 _) (cwV 1 hts gX7_areSo_X7_bearsOf rfl rfl rfl hd_X7_bearsOf ⟨Nat.le_of_ble_eq_true rfl, Nat.le_of_ble_eq_true rfl⟩) (zx_preV hG shM_0 vc_7) rfl rfl hl.1 rfl (lv_room (Nat.le_of_ble_eq_true rfl)) dX7_areSo_23 ⟨Nat.le_refl _, Nat.le_refl _⟩) hG (fun H locs hG => ?_)
        refine lv_icmp_le (tgt := 33) hx hb dX7_areSo_26 (by decide) (fun c_5 => ?_) (fun c_5 => ?_)
        · have hf := zx_pos c_5 hf
          refine lv_iconst (v := (0 : Int32)) hx hb dX7_areSo_33 (by decide) ?_
          refine lv_istore_n (lv' := [(2, .int (0 : Int32)), (0, .ref (ad 0)), (1, .int v1)]) hx hb dX7_areSo_34 rfl hl (by decide) rfl (fun ls hl => ?_)
          refine lv_iload_n hx hb dX7_areSo_35 rfl (lv_at hl 0 rfl) ?_
          refine lv_aload_n hx hb dX7_areSo_36 rfl (lv_at hl 1 rfl) ?_
          refine zx_getR (d := 15) hx hb hts hiX7 hown hG shM_0 vc_7 28 (by decide) rfl L4 dX7_areSo_37 ?_
          refine lv_iload_n hx hb dX7_areSo_40 rfl (lv_at hl 2 rfl) ?_
          refine zx_ald hx hb hG shM_15 g_2 dX7_areSo_41 ?_
          refine lv_icmp_eq (tgt := 47) hx hb dX7_areSo_42 (by decide) (fun c_7 => ?_) (fun c_7 => ?_)
          · have hf := zx_pos c_7 hf
            refine lv_iinc (v := (v1 + (1 : Int32))) (lv' := [(1, .int (v1 + (1 : Int32))), (2, .int (0 : Int32)), (0, .ref (ad 0))]) hx hb dX7_areSo_47 hl (k := 2) rfl (congrArg (HAdd.hAdd v1) (by decide)) (by decide) rfl (fun ls hl => ?_)
            refine lv_goto (tgt := 2) hx hb dX7_areSo_50 (by decide) ?_
            exact ih2 (v1 + (1 : Int32)) I_4 _ _ ls hf hG (lv_sub hl [2, 0] rfl)
          · have hf := zx_neg c_7 hf
            refine lv_iconst (v := (0 : Int32)) hx hb dX7_areSo_45 (by decide) ?_
            exact zx_iret hx hb hr hlocks rfl hG hf dX7_areSo_46
        · have hf := zx_neg c_5 hf
          refine lv_iconst (v := (1 : Int32)) hx hb dX7_areSo_29 (by decide) ?_
          refine lv_goto (tgt := 34) hx hb dX7_areSo_30 (by decide) ?_
          refine lv_istore_n (lv' := [(2, .int (1 : Int32)), (0, .ref (ad 0)), (1, .int v1)]) hx hb dX7_areSo_34 rfl hl (by decide) rfl (fun ls hl => ?_)
          refine lv_iload_n hx hb dX7_areSo_35 rfl (lv_at hl 0 rfl) ?_
          refine lv_aload_n hx hb dX7_areSo_36 rfl (lv_at hl 1 rfl) ?_
          refine zx_getR (d := 15) hx hb hts hiX7 hown hG shM_0 vc_7 28 (by decide) rfl L4 dX7_areSo_37 ?_
          refine lv_iload_n hx hb dX7_areSo_40 rfl (lv_at hl 2 rfl) ?_
          refine zx_ald hx hb hG shM_15 g_2 dX7_areSo_41 ?_
          refine lv_icmp_eq (tgt := 47) hx hb dX7_areSo_42 (by decide) (fun c_9 => ?_) (fun c_9 => ?_)
          · have hf := zx_pos c_9 hf
            refine lv_iinc (v := (v1 + (1 : Int32))) (lv' := [(1, .int (v1 + (1 : Int32))), (2, .int (1 : Int32)), (0, .ref (ad 0))]) hx hb dX7_areSo_47 hl (k := 2) rfl (congrArg (HAdd.hAdd v1) (by decide)) (by decide) rfl (fun ls hl => ?_)
            refine lv_goto (tgt := 2) hx hb dX7_areSo_50 (by decide) ?_
            exact ih2 (v1 + (1 : Int32)) I_4 _ _ ls hf hG (lv_sub hl [2, 0] rfl)
          · have hf := zx_neg c_9 hf
            refine lv_iconst (v := (0 : Int32)) hx hb dX7_areSo_45 (by decide) ?_
            exact zx_iret hx hb hr hlocks rfl hG hf dX7_areSo_46
  exact loop2 _ (0 : Int32) I _ _ ls hf hG (lv_sub hl [1, 0] rfl)

set_option maxHeartbeats 4000000 in
set_option maxRecDepth 100000 in
theorem mX7_strengths (l : Launch) (D : va_G) (ad : Nat → Nat) (cA : Nat → ClassId) (x1 : Int32) (I : zxI) (r : Int32) (J : zxI) (hf : fX7_strengths x1 I = some (r, J)) (sz : Nat) : Met l yX7_strengths wsX7_strengths { frames := 3, cells := 0, slots := 0, locals := 64 } (va_Pc [.ref (ad 0), .int x1] (zxPre D shM ad cA I sz)) (va_Qi (fun (r2 : Int32) (I2 : zxI) => r2 = r ∧ I2 = J) (zxPost D shM ad cA sz) (zxA shM ad sz)) 0 0 (zxA shM ad sz) := by
  refine zx_start (by decide) rfl (Nat.le_of_ble_eq_true rfl) ?_
  intro p e s m args below meth c ls hx hb hr hts hown hlocks hml hG hl
  have hl : lv_has ls 5 [(0, .ref (ad 0)), (1, .int x1)] := hl
  have hiX7 : ∀ w ∈ wsX70, w ∈ wsX7_strengths := fun w h => List.mem_cons_of_mem _ (List.mem_append_right _ h)
  have L1 := hts (Cond.fieldLink RX7 28 "GalleryBirdsModel" "strength" "[I") (List.mem_of_getElem? (i := 1) rfl)
  unfold fX7_strengths at hf
  refine lv_aload_n hx hb dX7_strengths_0 rfl (lv_at hl 0 rfl) ?_
  refine lv_iload_n hx hb dX7_strengths_1 rfl (lv_at hl 1 rfl) ?_
  obtain ⟨r_1, I_1, h_1, hf⟩ := zx_b hf
  refine zx_calli (va_runV (As := [.int x1]) (rest := []) ⟨hx, hb, hml, hown, hts⟩ (mX7_isGallery l D ad cA x1 I r_1 I_1 h_1 _) (cwV 1 hts gX7_strengths_X7_isGallery rfl rfl rfl hd_X7_isGallery ⟨Nat.le_of_ble_eq_true rfl, Nat.le_of_ble_eq_true rfl⟩) (zx_preV hG shM_0 vc_7) rfl rfl hl.1 rfl (lv_room (Nat.le_of_ble_eq_true rfl)) dX7_strengths_2 ⟨Nat.le_refl _, Nat.le_refl _⟩) hG (fun H locs hG => ?_)
  refine lv_if_ne (tgt := 10) hx hb dX7_strengths_5 (by decide) (fun c_2 => ?_) (fun c_2 => ?_)
  · have hf := zx_neg c_2 hf
    refine lv_aload_n hx hb dX7_strengths_10 rfl (lv_at hl 0 rfl) ?_
    refine zx_getR (d := 7) hx hb hts hiX7 hown hG shM_0 vc_7 13 (by decide) rfl L1 dX7_strengths_11 ?_
    refine lv_iload_n hx hb dX7_strengths_14 rfl (lv_at hl 1 rfl) ?_
    obtain ⟨g_3, hf⟩ := zx_in hf
    refine zx_ald hx hb hG shM_7 g_3 dX7_strengths_15 ?_
    refine lv_istore_n (lv' := [(2, .int (I_1 7 x1.toNatClampNeg)), (0, .ref (ad 0)), (1, .int x1)]) hx hb dX7_strengths_16 rfl hl (by decide) rfl (fun ls hl => ?_)
    refine lv_iconst (v := (0 : Int32)) hx hb dX7_strengths_17 (by decide) ?_
    refine lv_istore_n (lv' := [(3, .int (0 : Int32)), (2, .int (I_1 7 x1.toNatClampNeg)), (0, .ref (ad 0)), (1, .int x1)]) hx hb dX7_strengths_18 rfl hl (by decide) rfl (fun ls hl => ?_)
    refine lv_iconst (v := (1 : Int32)) hx hb dX7_strengths_19 (by decide) ?_
    refine lv_istore (lv' := [(4, .int (1 : Int32)), (3, .int (0 : Int32)), (2, .int (I_1 7 x1.toNatClampNeg)), (0, .ref (ad 0)), (1, .int x1)]) hx hb dX7_strengths_20 hl (by decide) rfl (fun ls hl => ?_)
    have loop22 : ∀ (n : Nat) (v1 : Int32) (v2 : Int32) (v3 : Int32) (v4 : Int32) (I : zxI) (H : Heap) (locs : List Loc) (ls : Array Slot), fX7_strengths_L22 n v1 v2 v3 v4 I = some (r, J) → zxAt D shM ad cA I s sz H locs → lv_has ls 5 [(0, .ref (ad 0)), (1, .int v1), (2, .int v2), (3, .int v3), (4, .int v4)] → W p l e (headSpec wsX7_strengths { frames := 3, cells := 0, slots := 0, locals := 64 }).room s m args below meth c H locs 0 0 (MQ below (va_Qi (fun (r2 : Int32) (I2 : zxI) => r2 = r ∧ I2 = J) (zxPost D shM ad cA sz) (zxA shM ad sz)) args s 0 0 (zxA shM ad sz)) (F0 m 22 ls []) := by
      intro n
      induction n with
      | zero =>
        intro v1 v2 v3 v4 I H locs ls hf hG hl
        rw [fX7_strengths_L22] at hf
        cases hf
      | succ n22 ih22 =>
        intro v1 v2 v3 v4 I H locs ls hf hG hl
        rw [fX7_strengths_L22] at hf
        refine lv_iload hx hb dX7_strengths_22 (lv_at hl 4 rfl) ?_
        refine lv_bipush (v := (9 : Int32)) hx hb dX7_strengths_24 (by decide) ?_
        refine lv_icmp_gt (tgt := 61) hx hb dX7_strengths_26 (by decide) (fun c_4 => ?_) (fun c_4 => ?_)
        · have hf := zx_pos c_4 hf
          refine lv_aload_n hx hb dX7_strengths_61 rfl (lv_at hl 0 rfl) ?_
          refine zx_getR (d := 7) hx hb hts hiX7 hown hG shM_0 vc_7 13 (by decide) rfl L1 dX7_strengths_62 ?_
          refine lv_iload_n hx hb dX7_strengths_65 rfl (lv_at hl 1 rfl) ?_
          refine lv_iload_n hx hb dX7_strengths_66 rfl (lv_at hl 2 rfl) ?_
          obtain ⟨g_5, hf⟩ := zx_in hf
          refine zx_ast hx hb hG shM_7 g_5 dX7_strengths_67 (fun H locs hG => ?_)
          refine lv_iload_n hx hb dX7_strengths_68 rfl (lv_at hl 3 rfl) ?_
          exact zx_iret hx hb hr hlocks rfl hG hf dX7_strengths_69
        · have hf := zx_neg c_4 hf
          refine lv_aload_n hx hb dX7_strengths_29 rfl (lv_at hl 0 rfl) ?_
          refine zx_getR (d := 7) hx hb hts hiX7 hown hG shM_0 vc_7 13 (by decide) rfl L1 dX7_strengths_30 ?_
          refine lv_iload_n hx hb dX7_strengths_33 rfl (lv_at hl 1 rfl) ?_
          refine lv_iload hx hb dX7_strengths_34 (lv_at hl 4 rfl) ?_
          obtain ⟨g_6, hf⟩ := zx_in hf
          refine zx_ast hx hb hG shM_7 g_6 dX7_strengths_36 (fun H locs hG => ?_)
          refine lv_iload_n hx hb dX7_strengths_37 rfl (lv_at hl 3 rfl) ?_
          refine lv_aload_n hx hb dX7_strengths_38 rfl (lv_at hl 0 rfl) ?_
          obtain ⟨r_7, I_7, h_7, hf⟩ := zx_b hf
          refine zx_calli (va_runV (As := []) (rest := [.int v3]) ⟨hx, hb, hml, hown, hts⟩ (mX7_areSo l D ad cA (zxU I 7 v1.toNatClampNeg v4) r_7 I_7 h_7 _) (cwV 0 hts gX7_strengths_X7_areSo rfl rfl rfl hd_X7_areSo ⟨Nat.le_of_ble_eq_true rfl, Nat.le_of_ble_eq_true rfl⟩) (zx_preV hG shM_0 vc_7) rfl rfl hl.1 rfl (lv_room (Nat.le_of_ble_eq_true rfl)) dX7_strengths_39 ⟨Nat.le_refl _, Nat.le_refl _⟩) hG (fun H locs hG => ?_)
          refine lv_if_eq (tgt := 52) hx hb dX7_strengths_42 (by decide) (fun c_8 => ?_) (fun c_8 => ?_)
          · have hf := zx_pos c_8 hf
            refine lv_iconst (v := (0 : Int32)) hx hb dX7_strengths_52 (by decide) ?_
            refine lv_ior hx hb dX7_strengths_53 ?_
            refine lv_istore_n (lv' := [(3, .int (v3 ||| (0 : Int32))), (0, .ref (ad 0)), (1, .int v1), (2, .int v2), (4, .int v4)]) hx hb dX7_strengths_54 rfl hl (by decide) rfl (fun ls hl => ?_)
            refine lv_iinc (v := (v4 + (1 : Int32))) (lv' := [(4, .int (v4 + (1 : Int32))), (3, .int (v3 ||| (0 : Int32))), (0, .ref (ad 0)), (1, .int v1), (2, .int v2)]) hx hb dX7_strengths_55 hl (k := 4) rfl (congrArg (HAdd.hAdd v4) (by decide)) (by decide) rfl (fun ls hl => ?_)
            refine lv_goto (tgt := 22) hx hb dX7_strengths_58 (by decide) ?_
            exact ih22 v1 v2 (v3 ||| (0 : Int32)) (v4 + (1 : Int32)) I_7 _ _ ls hf hG (lv_sub hl [2, 3, 4, 1, 0] rfl)
          · have hf := zx_neg c_8 hf
            refine lv_iconst (v := (1 : Int32)) hx hb dX7_strengths_45 (by decide) ?_
            refine lv_iload hx hb dX7_strengths_46 (lv_at hl 4 rfl) ?_
            refine lv_ishl hx hb dX7_strengths_48 ?_
            refine lv_goto (tgt := 53) hx hb dX7_strengths_49 (by decide) ?_
            refine lv_ior hx hb dX7_strengths_53 ?_
            refine lv_istore_n (lv' := [(3, .int (v3 ||| ((1 : Int32) <<< (v4 &&& 31)))), (0, .ref (ad 0)), (1, .int v1), (2, .int v2), (4, .int v4)]) hx hb dX7_strengths_54 rfl hl (by decide) rfl (fun ls hl => ?_)
            refine lv_iinc (v := (v4 + (1 : Int32))) (lv' := [(4, .int (v4 + (1 : Int32))), (3, .int (v3 ||| ((1 : Int32) <<< (v4 &&& 31)))), (0, .ref (ad 0)), (1, .int v1), (2, .int v2)]) hx hb dX7_strengths_55 hl (k := 4) rfl (congrArg (HAdd.hAdd v4) (by decide)) (by decide) rfl (fun ls hl => ?_)
            refine lv_goto (tgt := 22) hx hb dX7_strengths_58 (by decide) ?_
            exact ih22 v1 v2 (v3 ||| ((1 : Int32) <<< (v4 &&& 31))) (v4 + (1 : Int32)) I_7 _ _ ls hf hG (lv_sub hl [2, 3, 4, 1, 0] rfl)
    exact loop22 _ x1 (I_1 7 x1.toNatClampNeg) (0 : Int32) (1 : Int32) I_1 _ _ ls hf hG (lv_sub hl [3, 4, 2, 1, 0] rfl)
  · have hf := zx_pos c_2 hf
    refine lv_iconst (v := (-1 : Int32)) hx hb dX7_strengths_8 (by decide) ?_
    exact zx_iret hx hb hr hlocks rfl hG hf dX7_strengths_9

set_option maxHeartbeats 4000000 in
set_option maxRecDepth 100000 in
theorem mX7_kinds (l : Launch) (D : va_G) (ad : Nat → Nat) (cA : Nat → ClassId) (x1 : Int32) (I : zxI) (r : Int32) (J : zxI) (hf : fX7_kinds x1 I = some (r, J)) (sz : Nat) : Met l yX7_kinds wsX7_kinds { frames := 3, cells := 0, slots := 0, locals := 64 } (va_Pc [.ref (ad 0), .int x1] (zxPre D shM ad cA I sz)) (va_Qi (fun (r2 : Int32) (I2 : zxI) => r2 = r ∧ I2 = J) (zxPost D shM ad cA sz) (zxA shM ad sz)) 0 0 (zxA shM ad sz) := by
  refine zx_start (by decide) rfl (Nat.le_of_ble_eq_true rfl) ?_
  intro p e s m args below meth c ls hx hb hr hts hown hlocks hml hG hl
  have hl : lv_has ls 5 [(0, .ref (ad 0)), (1, .int x1)] := hl
  have hiX7 : ∀ w ∈ wsX70, w ∈ wsX7_kinds := fun w h => List.mem_cons_of_mem _ (List.mem_append_right _ h)
  have L1 := hts (Cond.fieldLink RX7 22 "GalleryBirdsModel" "kind" "[I") (List.mem_of_getElem? (i := 1) rfl)
  unfold fX7_kinds at hf
  refine lv_aload_n hx hb dX7_kinds_0 rfl (lv_at hl 0 rfl) ?_
  refine lv_iload_n hx hb dX7_kinds_1 rfl (lv_at hl 1 rfl) ?_
  obtain ⟨r_1, I_1, h_1, hf⟩ := zx_b hf
  refine zx_calli (va_runV (As := [.int x1]) (rest := []) ⟨hx, hb, hml, hown, hts⟩ (mX7_isGallery l D ad cA x1 I r_1 I_1 h_1 _) (cwV 1 hts gX7_kinds_X7_isGallery rfl rfl rfl hd_X7_isGallery ⟨Nat.le_of_ble_eq_true rfl, Nat.le_of_ble_eq_true rfl⟩) (zx_preV hG shM_0 vc_7) rfl rfl hl.1 rfl (lv_room (Nat.le_of_ble_eq_true rfl)) dX7_kinds_2 ⟨Nat.le_refl _, Nat.le_refl _⟩) hG (fun H locs hG => ?_)
  refine lv_if_ne (tgt := 10) hx hb dX7_kinds_5 (by decide) (fun c_2 => ?_) (fun c_2 => ?_)
  · have hf := zx_neg c_2 hf
    refine lv_aload_n hx hb dX7_kinds_10 rfl (lv_at hl 0 rfl) ?_
    refine zx_getR (d := 5) hx hb hts hiX7 hown hG shM_0 vc_7 11 (by decide) rfl L1 dX7_kinds_11 ?_
    refine lv_iload_n hx hb dX7_kinds_14 rfl (lv_at hl 1 rfl) ?_
    obtain ⟨g_3, hf⟩ := zx_in hf
    refine zx_ald hx hb hG shM_5 g_3 dX7_kinds_15 ?_
    refine lv_istore_n (lv' := [(2, .int (I_1 5 x1.toNatClampNeg)), (0, .ref (ad 0)), (1, .int x1)]) hx hb dX7_kinds_16 rfl hl (by decide) rfl (fun ls hl => ?_)
    refine lv_iconst (v := (0 : Int32)) hx hb dX7_kinds_17 (by decide) ?_
    refine lv_istore_n (lv' := [(3, .int (0 : Int32)), (2, .int (I_1 5 x1.toNatClampNeg)), (0, .ref (ad 0)), (1, .int x1)]) hx hb dX7_kinds_18 rfl hl (by decide) rfl (fun ls hl => ?_)
    refine lv_iconst (v := (0 : Int32)) hx hb dX7_kinds_19 (by decide) ?_
    refine lv_istore (lv' := [(4, .int (0 : Int32)), (3, .int (0 : Int32)), (2, .int (I_1 5 x1.toNatClampNeg)), (0, .ref (ad 0)), (1, .int x1)]) hx hb dX7_kinds_20 hl (by decide) rfl (fun ls hl => ?_)
    have loop22 : ∀ (n : Nat) (v1 : Int32) (v2 : Int32) (v3 : Int32) (v4 : Int32) (I : zxI) (H : Heap) (locs : List Loc) (ls : Array Slot), fX7_kinds_L22 n v1 v2 v3 v4 I = some (r, J) → zxAt D shM ad cA I s sz H locs → lv_has ls 5 [(0, .ref (ad 0)), (1, .int v1), (2, .int v2), (3, .int v3), (4, .int v4)] → W p l e (headSpec wsX7_kinds { frames := 3, cells := 0, slots := 0, locals := 64 }).room s m args below meth c H locs 0 0 (MQ below (va_Qi (fun (r2 : Int32) (I2 : zxI) => r2 = r ∧ I2 = J) (zxPost D shM ad cA sz) (zxA shM ad sz)) args s 0 0 (zxA shM ad sz)) (F0 m 22 ls []) := by
      intro n
      induction n with
      | zero =>
        intro v1 v2 v3 v4 I H locs ls hf hG hl
        rw [fX7_kinds_L22] at hf
        cases hf
      | succ n22 ih22 =>
        intro v1 v2 v3 v4 I H locs ls hf hG hl
        rw [fX7_kinds_L22] at hf
        refine lv_iload hx hb dX7_kinds_22 (lv_at hl 4 rfl) ?_
        refine lv_iconst (v := (3 : Int32)) hx hb dX7_kinds_24 (by decide) ?_
        refine lv_icmp_ge (tgt := 60) hx hb dX7_kinds_25 (by decide) (fun c_4 => ?_) (fun c_4 => ?_)
        · have hf := zx_pos c_4 hf
          refine lv_aload_n hx hb dX7_kinds_60 rfl (lv_at hl 0 rfl) ?_
          refine zx_getR (d := 5) hx hb hts hiX7 hown hG shM_0 vc_7 11 (by decide) rfl L1 dX7_kinds_61 ?_
          refine lv_iload_n hx hb dX7_kinds_64 rfl (lv_at hl 1 rfl) ?_
          refine lv_iload_n hx hb dX7_kinds_65 rfl (lv_at hl 2 rfl) ?_
          obtain ⟨g_5, hf⟩ := zx_in hf
          refine zx_ast hx hb hG shM_5 g_5 dX7_kinds_66 (fun H locs hG => ?_)
          refine lv_iload_n hx hb dX7_kinds_67 rfl (lv_at hl 3 rfl) ?_
          exact zx_iret hx hb hr hlocks rfl hG hf dX7_kinds_68
        · have hf := zx_neg c_4 hf
          refine lv_aload_n hx hb dX7_kinds_28 rfl (lv_at hl 0 rfl) ?_
          refine zx_getR (d := 5) hx hb hts hiX7 hown hG shM_0 vc_7 11 (by decide) rfl L1 dX7_kinds_29 ?_
          refine lv_iload_n hx hb dX7_kinds_32 rfl (lv_at hl 1 rfl) ?_
          refine lv_iload hx hb dX7_kinds_33 (lv_at hl 4 rfl) ?_
          obtain ⟨g_6, hf⟩ := zx_in hf
          refine zx_ast hx hb hG shM_5 g_6 dX7_kinds_35 (fun H locs hG => ?_)
          refine lv_iload_n hx hb dX7_kinds_36 rfl (lv_at hl 3 rfl) ?_
          refine lv_aload_n hx hb dX7_kinds_37 rfl (lv_at hl 0 rfl) ?_
          obtain ⟨r_7, I_7, h_7, hf⟩ := zx_b hf
          refine zx_calli (va_runV (As := []) (rest := [.int v3]) ⟨hx, hb, hml, hown, hts⟩ (mX7_areSo l D ad cA (zxU I 5 v1.toNatClampNeg v4) r_7 I_7 h_7 _) (cwV 0 hts gX7_kinds_X7_areSo rfl rfl rfl hd_X7_areSo ⟨Nat.le_of_ble_eq_true rfl, Nat.le_of_ble_eq_true rfl⟩) (zx_preV hG shM_0 vc_7) rfl rfl hl.1 rfl (lv_room (Nat.le_of_ble_eq_true rfl)) dX7_kinds_38 ⟨Nat.le_refl _, Nat.le_refl _⟩) hG (fun H locs hG => ?_)
          refine lv_if_eq (tgt := 51) hx hb dX7_kinds_41 (by decide) (fun c_8 => ?_) (fun c_8 => ?_)
          · have hf := zx_pos c_8 hf
            refine lv_iconst (v := (0 : Int32)) hx hb dX7_kinds_51 (by decide) ?_
            refine lv_ior hx hb dX7_kinds_52 ?_
            refine lv_istore_n (lv' := [(3, .int (v3 ||| (0 : Int32))), (0, .ref (ad 0)), (1, .int v1), (2, .int v2), (4, .int v4)]) hx hb dX7_kinds_53 rfl hl (by decide) rfl (fun ls hl => ?_)
            refine lv_iinc (v := (v4 + (1 : Int32))) (lv' := [(4, .int (v4 + (1 : Int32))), (3, .int (v3 ||| (0 : Int32))), (0, .ref (ad 0)), (1, .int v1), (2, .int v2)]) hx hb dX7_kinds_54 hl (k := 4) rfl (congrArg (HAdd.hAdd v4) (by decide)) (by decide) rfl (fun ls hl => ?_)
            refine lv_goto (tgt := 22) hx hb dX7_kinds_57 (by decide) ?_
            exact ih22 v1 v2 (v3 ||| (0 : Int32)) (v4 + (1 : Int32)) I_7 _ _ ls hf hG (lv_sub hl [2, 3, 4, 1, 0] rfl)
          · have hf := zx_neg c_8 hf
            refine lv_iconst (v := (1 : Int32)) hx hb dX7_kinds_44 (by decide) ?_
            refine lv_iload hx hb dX7_kinds_45 (lv_at hl 4 rfl) ?_
            refine lv_ishl hx hb dX7_kinds_47 ?_
            refine lv_goto (tgt := 52) hx hb dX7_kinds_48 (by decide) ?_
            refine lv_ior hx hb dX7_kinds_52 ?_
            refine lv_istore_n (lv' := [(3, .int (v3 ||| ((1 : Int32) <<< (v4 &&& 31)))), (0, .ref (ad 0)), (1, .int v1), (2, .int v2), (4, .int v4)]) hx hb dX7_kinds_53 rfl hl (by decide) rfl (fun ls hl => ?_)
            refine lv_iinc (v := (v4 + (1 : Int32))) (lv' := [(4, .int (v4 + (1 : Int32))), (3, .int (v3 ||| ((1 : Int32) <<< (v4 &&& 31)))), (0, .ref (ad 0)), (1, .int v1), (2, .int v2)]) hx hb dX7_kinds_54 hl (k := 4) rfl (congrArg (HAdd.hAdd v4) (by decide)) (by decide) rfl (fun ls hl => ?_)
            refine lv_goto (tgt := 22) hx hb dX7_kinds_57 (by decide) ?_
            exact ih22 v1 v2 (v3 ||| ((1 : Int32) <<< (v4 &&& 31))) (v4 + (1 : Int32)) I_7 _ _ ls hf hG (lv_sub hl [2, 3, 4, 1, 0] rfl)
    exact loop22 _ x1 (I_1 5 x1.toNatClampNeg) (0 : Int32) (0 : Int32) I_1 _ _ ls hf hG (lv_sub hl [3, 4, 2, 1, 0] rfl)
  · have hf := zx_pos c_2 hf
    refine lv_iconst (v := (-1 : Int32)) hx hb dX7_kinds_8 (by decide) ?_
    exact zx_iret hx hb hr hlocks rfl hG hf dX7_kinds_9

set_option maxHeartbeats 4000000 in
set_option maxRecDepth 100000 in
theorem mX7_inLeastTerms (l : Launch) (D : va_G) (ad : Nat → Nat) (cA : Nat → ClassId) (x0 : Int64) (x2 : Int64) (x4 : Int32) (I : zxI) (r : Int64) (J : zxI) (hf : fX7_inLeastTerms x0 x2 x4 I = some (r, J)) (sz : Nat) : Met l yX7_inLeastTerms wsX7_inLeastTerms { frames := 0, cells := 0, slots := 0, locals := 0 } (va_Pc [.long x0, .long x2, .int x4] (zxPre D shM ad cA I sz)) (va_Ql (fun (r2 : Int64) (I2 : zxI) => r2 = r ∧ I2 = J) (zxPost D shM ad cA sz) (zxA shM ad sz)) 0 0 (zxA shM ad sz) := by
  refine zx_start (by decide) rfl (Nat.le_of_ble_eq_true rfl) ?_
  intro p e s m args below meth c ls hx hb hr hts hown hlocks hml hG hl
  have hl : lv_has ls 11 [(0, .long x0), (2, .long x2), (4, .int x4)] := hl
  unfold fX7_inLeastTerms at hf
  refine lv_lload_n hx hb dX7_inLeastTerms_0 rfl (lv_at hl 0 rfl) ?_
  refine lv_lstore (lv' := [(5, .long x0), (0, .long x0), (2, .long x2), (4, .int x4)]) hx hb dX7_inLeastTerms_1 hl (by decide) rfl (fun ls hl => ?_)
  refine lv_lload_n hx hb dX7_inLeastTerms_3 rfl (lv_at hl 2 rfl) ?_
  refine lv_lstore (lv' := [(7, .long x2), (5, .long x0), (0, .long x0), (2, .long x2), (4, .int x4)]) hx hb dX7_inLeastTerms_4 hl (by decide) rfl (fun ls hl => ?_)
  have loop6 : ∀ (n : Nat) (v0 : Int64) (v2 : Int64) (v4 : Int32) (v5 : Int64) (v7 : Int64) (I : zxI) (H : Heap) (locs : List Loc) (ls : Array Slot), fX7_inLeastTerms_L6 n v0 v2 v4 v5 v7 I = some (r, J) → zxAt D shM ad cA I s sz H locs → lv_has ls 11 [(0, .long v0), (2, .long v2), (4, .int v4), (5, .long v5), (7, .long v7)] → W p l e (headSpec wsX7_inLeastTerms { frames := 0, cells := 0, slots := 0, locals := 0 }).room s m args below meth c H locs 0 0 (MQ below (va_Ql (fun (r2 : Int64) (I2 : zxI) => r2 = r ∧ I2 = J) (zxPost D shM ad cA sz) (zxA shM ad sz)) args s 0 0 (zxA shM ad sz)) (F0 m 6 ls []) := by
    intro n
    induction n with
    | zero =>
      intro v0 v2 v4 v5 v7 I H locs ls hf hG hl
      rw [fX7_inLeastTerms_L6] at hf
      cases hf
    | succ n6 ih6 =>
      intro v0 v2 v4 v5 v7 I H locs ls hf hG hl
      rw [fX7_inLeastTerms_L6] at hf
      refine lv_lload hx hb dX7_inLeastTerms_6 (lv_at hl 4 rfl) ?_
      refine lv_lconst (v := (0 : Int64)) hx hb dX7_inLeastTerms_8 (by decide) ?_
      refine W.lcmp hx hb dX7_inLeastTerms_9 ?_
      refine lv_if_eq (tgt := 31) hx hb dX7_inLeastTerms_10 (by decide) (fun c_1 => ?_) (fun c_1 => ?_)
      · have hf := zx_pos c_1 hf
        refine lv_iload hx hb dX7_inLeastTerms_31 (lv_at hl 2 rfl) ?_
        refine lv_if_ne (tgt := 43) hx hb dX7_inLeastTerms_33 (by decide) (fun c_2 => ?_) (fun c_2 => ?_)
        · have hf := zx_neg c_2 hf
          refine lv_lload_n hx hb dX7_inLeastTerms_43 rfl (lv_at hl 1 rfl) ?_
          refine lv_lload hx hb dX7_inLeastTerms_44 (lv_at hl 3 rfl) ?_
          obtain ⟨g_3, hf⟩ := zx_gd hf
          refine lv_ldiv hx hb dX7_inLeastTerms_46 g_3 ?_
          exact zx_lret hx hb hr hlocks hG hf dX7_inLeastTerms_47
        · have hf := zx_pos c_2 hf
          refine lv_lload_n hx hb dX7_inLeastTerms_36 rfl (lv_at hl 0 rfl) ?_
          refine lv_lload hx hb dX7_inLeastTerms_37 (lv_at hl 3 rfl) ?_
          obtain ⟨g_4, hf⟩ := zx_gd hf
          refine lv_ldiv hx hb dX7_inLeastTerms_39 g_4 ?_
          refine lv_goto (tgt := 47) hx hb dX7_inLeastTerms_40 (by decide) ?_
          exact zx_lret hx hb hr hlocks hG hf dX7_inLeastTerms_47
      · have hf := zx_neg c_1 hf
        refine lv_lload hx hb dX7_inLeastTerms_13 (lv_at hl 3 rfl) ?_
        refine lv_lload hx hb dX7_inLeastTerms_15 (lv_at hl 4 rfl) ?_
        obtain ⟨g_5, hf⟩ := zx_gd hf
        refine lv_lrem hx hb dX7_inLeastTerms_17 g_5 ?_
        refine lv_lstore (lv' := [(9, .long (v5 - v5 / v7 * v7)), (0, .long v0), (2, .long v2), (4, .int v4), (5, .long v5), (7, .long v7)]) hx hb dX7_inLeastTerms_18 hl (by decide) rfl (fun ls hl => ?_)
        refine lv_lload hx hb dX7_inLeastTerms_20 (lv_at hl 5 rfl) ?_
        refine lv_lstore (lv' := [(5, .long v7), (9, .long (v5 - v5 / v7 * v7)), (0, .long v0), (2, .long v2), (4, .int v4), (7, .long v7)]) hx hb dX7_inLeastTerms_22 hl (by decide) rfl (fun ls hl => ?_)
        refine lv_lload hx hb dX7_inLeastTerms_24 (lv_at hl 1 rfl) ?_
        refine lv_lstore (lv' := [(7, .long (v5 - v5 / v7 * v7)), (5, .long v7), (9, .long (v5 - v5 / v7 * v7)), (0, .long v0), (2, .long v2), (4, .int v4)]) hx hb dX7_inLeastTerms_26 hl (by decide) rfl (fun ls hl => ?_)
        refine lv_goto (tgt := 6) hx hb dX7_inLeastTerms_28 (by decide) ?_
        exact ih6 v0 v2 v4 v7 (v5 - v5 / v7 * v7) I _ _ ls hf hG (lv_sub hl [3, 4, 5, 1, 0] rfl)
  exact loop6 _ x0 x2 x4 x0 x2 I _ _ ls hf hG (lv_sub hl [2, 3, 4, 1, 0] rfl)

set_option maxHeartbeats 4000000 in
set_option maxRecDepth 100000 in
theorem mX7_odds (l : Launch) (D : va_G) (ad : Nat → Nat) (cA : Nat → ClassId) (x1 : Int32) (x2 : Int32) (I : zxI) (r : Int64) (J : zxI) (hf : fX7_odds x1 x2 I = some (r, J)) (sz : Nat) : Met l yX7_odds wsX7_odds { frames := 4, cells := 0, slots := 0, locals := 86 } (va_Pc [.ref (ad 0), .int x1, .int x2] (zxPre D shM ad cA I sz)) (va_Ql (fun (r2 : Int64) (I2 : zxI) => r2 = r ∧ I2 = J) (zxPost D shM ad cA sz) (zxA shM ad sz)) 0 0 (zxA shM ad sz) := by
  refine zx_start (by decide) rfl (Nat.le_of_ble_eq_true rfl) ?_
  intro p e s m args below meth c ls hx hb hr hts hown hlocks hml hG hl
  have hl : lv_has ls 5 [(0, .ref (ad 0)), (1, .int x1), (2, .int x2)] := hl
  have hiX7 : ∀ w ∈ wsX70, w ∈ wsX7_odds := fun w h => List.mem_cons_of_mem _ (List.mem_append_right _ h)
  have L1 := hts (Cond.constantLong RX7 59 (-9223372036854775808)) (List.mem_of_getElem? (i := 1) rfl)
  have L2 := hts (Cond.fieldLink RX7 65 "GalleryBirdsModel" "galleries" "I") (List.mem_of_getElem? (i := 2) rfl)
  have L3 := hts (Cond.fieldLink RX7 68 "GalleryBirdsModel" "words" "I") (List.mem_of_getElem? (i := 3) rfl)
  have L4 := hts (Cond.fieldLink RX7 107 "GalleryBirdsModel" "down" "I") (List.mem_of_getElem? (i := 4) rfl)
  unfold fX7_odds at hf
  refine lv_aload_n hx hb dX7_odds_0 rfl (lv_at hl 0 rfl) ?_
  refine lv_iload_n hx hb dX7_odds_1 rfl (lv_at hl 1 rfl) ?_
  obtain ⟨r_1, I_1, h_1, hf⟩ := zx_b hf
  refine zx_calli (va_runV (As := [.int x1]) (rest := []) ⟨hx, hb, hml, hown, hts⟩ (mX7_isGallery l D ad cA x1 I r_1 I_1 h_1 _) (cwV 1 hts gX7_odds_X7_isGallery rfl rfl rfl hd_X7_isGallery ⟨Nat.le_of_ble_eq_true rfl, Nat.le_of_ble_eq_true rfl⟩) (zx_preV hG shM_0 vc_7) rfl rfl hl.1 rfl (lv_room (Nat.le_of_ble_eq_true rfl)) dX7_odds_2 ⟨Nat.le_refl _, Nat.le_refl _⟩) hG (fun H locs hG => ?_)
  refine lv_if_eq (tgt := 17) hx hb dX7_odds_5 (by decide) (fun c_2 => ?_) (fun c_2 => ?_)
  · have hf := zx_pos c_2 hf
    refine lv_ldc2 (v := (-9223372036854775808 : Int64)) hx hb hown L1 dX7_odds_17 ?_
    exact zx_lret hx hb hr hlocks hG hf dX7_odds_20
  · have hf := zx_neg c_2 hf
    refine lv_iload_n hx hb dX7_odds_8 rfl (lv_at hl 2 rfl) ?_
    refine lv_iconst (v := (0 : Int32)) hx hb dX7_odds_9 (by decide) ?_
    refine lv_iconst (v := (1 : Int32)) hx hb dX7_odds_10 (by decide) ?_
    obtain ⟨r_3, I_3, h_3, hf⟩ := zx_b hf
    refine zx_calli (va_runS (As := [.int x2, .int (0 : Int32), .int (1 : Int32)]) (rest := []) ⟨hx, hb, hml, hown, hts⟩ (mX7_within l D ad cA x2 (0 : Int32) (1 : Int32) I_1 r_3 I_3 h_3 _) (va_cwS 3 hts gX7_odds_X7_within rfl rfl rfl hd_X7_within ⟨Nat.le_of_ble_eq_true rfl, Nat.le_of_ble_eq_true rfl⟩) (zx_preS hG) rfl rfl hl.1 rfl (lv_room (Nat.le_of_ble_eq_true rfl)) dX7_odds_11 ⟨Nat.le_refl _, Nat.le_refl _⟩) hG (fun H locs hG => ?_)
    refine lv_if_ne (tgt := 21) hx hb dX7_odds_14 (by decide) (fun c_4 => ?_) (fun c_4 => ?_)
    · have hf := zx_neg c_4 hf
      refine lv_iconst (v := (0 : Int32)) hx hb dX7_odds_21 (by decide) ?_
      refine lv_istore_n (lv' := [(3, .int (0 : Int32)), (0, .ref (ad 0)), (1, .int x1), (2, .int x2)]) hx hb dX7_odds_22 rfl hl (by decide) rfl (fun ls hl => ?_)
      refine lv_iconst (v := (0 : Int32)) hx hb dX7_odds_23 (by decide) ?_
      refine lv_istore (lv' := [(4, .int (0 : Int32)), (3, .int (0 : Int32)), (0, .ref (ad 0)), (1, .int x1), (2, .int x2)]) hx hb dX7_odds_24 hl (by decide) rfl (fun ls hl => ?_)
      have loop26 : ∀ (n : Nat) (v1 : Int32) (v2 : Int32) (v3 : Int32) (v4 : Int32) (I : zxI) (H : Heap) (locs : List Loc) (ls : Array Slot), fX7_odds_L26 n v1 v2 v3 v4 I = some (r, J) → zxAt D shM ad cA I s sz H locs → lv_has ls 5 [(0, .ref (ad 0)), (1, .int v1), (2, .int v2), (3, .int v3), (4, .int v4)] → W p l e (headSpec wsX7_odds { frames := 4, cells := 0, slots := 0, locals := 86 }).room s m args below meth c H locs 0 0 (MQ below (va_Ql (fun (r2 : Int64) (I2 : zxI) => r2 = r ∧ I2 = J) (zxPost D shM ad cA sz) (zxA shM ad sz)) args s 0 0 (zxA shM ad sz)) (F0 m 26 ls []) := by
        intro n
        induction n with
        | zero =>
          intro v1 v2 v3 v4 I H locs ls hf hG hl
          rw [fX7_odds_L26] at hf
          cases hf
        | succ n26 ih26 =>
          intro v1 v2 v3 v4 I H locs ls hf hG hl
          rw [fX7_odds_L26] at hf
          refine lv_iload hx hb dX7_odds_26 (lv_at hl 4 rfl) ?_
          refine lv_aload_n hx hb dX7_odds_28 rfl (lv_at hl 0 rfl) ?_
          refine zx_getI hx hb hts hiX7 hown hG shM_0 vc_7 5 (by decide) rfl L2 dX7_odds_29 ?_
          refine lv_aload_n hx hb dX7_odds_32 rfl (lv_at hl 0 rfl) ?_
          refine zx_getI hx hb hts hiX7 hown hG shM_0 vc_7 6 (by decide) rfl L3 dX7_odds_33 ?_
          refine lv_imul hx hb dX7_odds_36 ?_
          refine lv_icmp_ge (tgt := 84) hx hb dX7_odds_37 (by decide) (fun c_5 => ?_) (fun c_5 => ?_)
          · have hf := zx_pos c_5 hf
            refine lv_iload_n hx hb dX7_odds_84 rfl (lv_at hl 3 rfl) ?_
            refine lv_i2l (v := (v3.toInt64)) hx hb dX7_odds_85 rfl ?_
            refine lv_aload_n hx hb dX7_odds_86 rfl (lv_at hl 0 rfl) ?_
            refine zx_getI hx hb hts hiX7 hown hG shM_0 vc_7 5 (by decide) rfl L2 dX7_odds_87 ?_
            refine lv_aload_n hx hb dX7_odds_90 rfl (lv_at hl 0 rfl) ?_
            refine zx_getI hx hb hts hiX7 hown hG shM_0 vc_7 6 (by decide) rfl L3 dX7_odds_91 ?_
            refine lv_imul hx hb dX7_odds_94 ?_
            refine lv_i2l (v := (((I 0 5) * (I 0 6)).toInt64)) hx hb dX7_odds_95 rfl ?_
            refine lv_iload_n hx hb dX7_odds_96 rfl (lv_at hl 2 rfl) ?_
            obtain ⟨r_6, I_6, h_6, hf⟩ := zx_b hf
            refine zx_calll (va_runS (As := [.long (v3.toInt64), .long (((I 0 5) * (I 0 6)).toInt64), .int v2]) (rest := []) ⟨hx, hb, hml, hown, hts⟩ (mX7_inLeastTerms l D ad cA (v3.toInt64) (((I 0 5) * (I 0 6)).toInt64) v2 I r_6 I_6 h_6 _) (va_cwS 3 hts gX7_odds_X7_inLeastTerms rfl rfl rfl hd_X7_inLeastTerms ⟨Nat.le_of_ble_eq_true rfl, Nat.le_of_ble_eq_true rfl⟩) (zx_preS hG) rfl rfl hl.1 rfl (lv_room (Nat.le_of_ble_eq_true rfl)) dX7_odds_97 ⟨Nat.le_refl _, Nat.le_refl _⟩) hG (fun H locs hG => ?_)
            exact zx_lret hx hb hr hlocks hG hf dX7_odds_100
          · have hf := zx_neg c_5 hf
            refine lv_aload_n hx hb dX7_odds_40 rfl (lv_at hl 0 rfl) ?_
            obtain ⟨I_7, h_7, hf⟩ := zx_v hf
            refine zx_callv (va_runV (As := []) (rest := []) ⟨hx, hb, hml, hown, hts⟩ (mX7_keep l D ad cA I I_7 h_7 _) (cwV 0 hts gX7_odds_X7_keep rfl rfl rfl hd_X7_keep ⟨Nat.le_of_ble_eq_true rfl, Nat.le_of_ble_eq_true rfl⟩) (zx_preV hG shM_0 vc_7) rfl rfl hl.1 rfl (lv_room (Nat.le_of_ble_eq_true rfl)) dX7_odds_41 ⟨Nat.le_refl _, Nat.le_refl _⟩) hG (fun H locs hG => ?_)
            refine lv_aload_n hx hb dX7_odds_44 rfl (lv_at hl 0 rfl) ?_
            refine lv_iload hx hb dX7_odds_45 (lv_at hl 4 rfl) ?_
            refine lv_aload_n hx hb dX7_odds_47 rfl (lv_at hl 0 rfl) ?_
            refine zx_getI hx hb hts hiX7 hown hG shM_0 vc_7 6 (by decide) rfl L3 dX7_odds_48 ?_
            obtain ⟨g_8, hf⟩ := zx_gd hf
            refine lv_idiv hx hb dX7_odds_51 g_8 ?_
            refine lv_iload hx hb dX7_odds_52 (lv_at hl 4 rfl) ?_
            refine lv_aload_n hx hb dX7_odds_54 rfl (lv_at hl 0 rfl) ?_
            refine zx_getI hx hb hts hiX7 hown hG shM_0 vc_7 6 (by decide) rfl L3 dX7_odds_55 ?_
            refine lv_irem hx hb dX7_odds_58 g_8 ?_
            obtain ⟨r_10, I_10, h_10, hf⟩ := zx_b hf
            refine zx_calli (va_runV (As := [.int (v4 / (I_7 0 6)), .int (v4 - v4 / (I_7 0 6) * (I_7 0 6))]) (rest := []) ⟨hx, hb, hml, hown, hts⟩ (mX7_breathe l D ad cA (v4 / (I_7 0 6)) (v4 - v4 / (I_7 0 6) * (I_7 0 6)) I_7 r_10 I_10 h_10 _) (cwV 2 hts gX7_odds_X7_breathe rfl rfl rfl hd_X7_breathe ⟨Nat.le_of_ble_eq_true rfl, Nat.le_of_ble_eq_true rfl⟩) (zx_preV hG shM_0 vc_7) rfl rfl hl.1 rfl (lv_room (Nat.le_of_ble_eq_true rfl)) dX7_odds_59 ⟨Nat.le_refl _, Nat.le_refl _⟩) hG (fun H locs hG => ?_)
            refine lv_pop hx hb dX7_odds_62 rfl ?_
            refine lv_iload_n hx hb dX7_odds_63 rfl (lv_at hl 3 rfl) ?_
            refine lv_aload_n hx hb dX7_odds_64 rfl (lv_at hl 0 rfl) ?_
            refine zx_getI hx hb hts hiX7 hown hG shM_0 vc_7 8 (by decide) rfl L4 dX7_odds_65 ?_
            refine lv_iload_n hx hb dX7_odds_68 rfl (lv_at hl 1 rfl) ?_
            refine lv_ishr hx hb dX7_odds_69 ?_
            refine lv_iconst (v := (1 : Int32)) hx hb dX7_odds_70 (by decide) ?_
            refine lv_iand hx hb dX7_odds_71 ?_
            refine lv_iadd hx hb dX7_odds_72 ?_
            refine lv_istore_n (lv' := [(3, .int (v3 + (((I_10 0 8) >>> (v1 &&& 31)) &&& (1 : Int32)))), (0, .ref (ad 0)), (1, .int v1), (2, .int v2), (4, .int v4)]) hx hb dX7_odds_73 rfl hl (by decide) rfl (fun ls hl => ?_)
            refine lv_aload_n hx hb dX7_odds_74 rfl (lv_at hl 1 rfl) ?_
            obtain ⟨I_11, h_11, hf⟩ := zx_v hf
            refine zx_callv (va_runV (As := []) (rest := []) ⟨hx, hb, hml, hown, hts⟩ (mX7_putBack l D ad cA I_10 I_11 h_11 _) (cwV 0 hts gX7_odds_X7_putBack rfl rfl rfl hd_X7_putBack ⟨Nat.le_of_ble_eq_true rfl, Nat.le_of_ble_eq_true rfl⟩) (zx_preV hG shM_0 vc_7) rfl rfl hl.1 rfl (lv_room (Nat.le_of_ble_eq_true rfl)) dX7_odds_75 ⟨Nat.le_refl _, Nat.le_refl _⟩) hG (fun H locs hG => ?_)
            refine lv_iinc (v := (v4 + (1 : Int32))) (lv' := [(4, .int (v4 + (1 : Int32))), (3, .int (v3 + (((I_10 0 8) >>> (v1 &&& 31)) &&& (1 : Int32)))), (0, .ref (ad 0)), (1, .int v1), (2, .int v2)]) hx hb dX7_odds_78 hl (k := 4) rfl (congrArg (HAdd.hAdd v4) (by decide)) (by decide) rfl (fun ls hl => ?_)
            refine lv_goto (tgt := 26) hx hb dX7_odds_81 (by decide) ?_
            exact ih26 v1 v2 (v3 + (((I_10 0 8) >>> (v1 &&& 31)) &&& (1 : Int32))) (v4 + (1 : Int32)) I_11 _ _ ls hf hG (lv_sub hl [2, 3, 4, 1, 0] rfl)
      exact loop26 _ x1 x2 (0 : Int32) (0 : Int32) I_3 _ _ ls hf hG (lv_sub hl [2, 3, 4, 1, 0] rfl)
    · have hf := zx_pos c_4 hf
      refine lv_ldc2 (v := (-9223372036854775808 : Int64)) hx hb hown L1 dX7_odds_17 ?_
      exact zx_lret hx hb hr hlocks hG hf dX7_odds_20

set_option maxHeartbeats 4000000 in
set_option maxRecDepth 100000 in
theorem mX7_sheet (l : Launch) (D : va_G) (ad : Nat → Nat) (cA : Nat → ClassId) (x1 : Int32) (x2 : Int32) (x3 : Int32) (I : zxI) (r : Int32) (J : zxI) (hf : fX7_sheet x1 x2 x3 I = some (r, J)) (sz : Nat) : Met l yX7_sheet wsX7_sheet { frames := 2, cells := 0, slots := 0, locals := 42 } (va_Pc [.ref (ad 0), .int x1, .int x2, .int x3] (zxPre D shM ad cA I sz)) (va_Qi (fun (r2 : Int32) (I2 : zxI) => r2 = r ∧ I2 = J) (zxPost D shM ad cA sz) (zxA shM ad sz)) 0 0 (zxA shM ad sz) := by
  refine zx_start (by decide) rfl (Nat.le_of_ble_eq_true rfl) ?_
  intro p e s m args below meth c ls hx hb hr hts hown hlocks hml hG hl
  have hl : lv_has ls 5 [(0, .ref (ad 0)), (1, .int x1), (2, .int x2), (3, .int x3)] := hl
  have hiX7 : ∀ w ∈ wsX70, w ∈ wsX7_sheet := fun w h => List.mem_cons_of_mem _ (List.mem_append_right _ h)
  have L1 := hts (Cond.fieldLink RX7 55 "GalleryBirdsModel" "fault" "I") (List.mem_of_getElem? (i := 1) rfl)
  have L2 := hts (Cond.fieldLink RX7 9 "GalleryBirdsModel" "sorts" "[I") (List.mem_of_getElem? (i := 2) rfl)
  have L3 := hts (Cond.fieldLink RX7 13 "GalleryBirdsModel" "sheetLong" "[I") (List.mem_of_getElem? (i := 3) rfl)
  have L4 := hts (Cond.fieldLink RX7 16 "GalleryBirdsModel" "cells" "[I") (List.mem_of_getElem? (i := 4) rfl)
  unfold fX7_sheet at hf
  refine lv_aload_n hx hb dX7_sheet_0 rfl (lv_at hl 0 rfl) ?_
  refine lv_iconst (v := (0 : Int32)) hx hb dX7_sheet_1 (by decide) ?_
  refine zx_putI hx hb hts hiX7 tyX7 tyX7_ok nmX7 hown hG shM_0 vc_7 0 (by decide) rfl L1 rfl (ty := .int) (tyX7_ok 0 (by decide)) rfl rfl dX7_sheet_2 (fun H locs hG => ?_)
  refine lv_iload_n hx hb dX7_sheet_5 rfl (lv_at hl 1 rfl) ?_
  obtain ⟨r_1, I_1, h_1, hf⟩ := zx_b hf
  refine zx_calli (va_runS (As := [.int x1]) (rest := []) ⟨hx, hb, hml, hown, hts⟩ (mX7_isSheet l D ad cA x1 (zxU I 0 0 (0 : Int32)) r_1 I_1 h_1 _) (va_cwS 1 hts gX7_sheet_X7_isSheet rfl rfl rfl hd_X7_isSheet ⟨Nat.le_of_ble_eq_true rfl, Nat.le_of_ble_eq_true rfl⟩) (zx_preS hG) rfl rfl hl.1 rfl (lv_room (Nat.le_of_ble_eq_true rfl)) dX7_sheet_6 ⟨Nat.le_refl _, Nat.le_refl _⟩) hG (fun H locs hG => ?_)
  refine lv_if_ne (tgt := 14) hx hb dX7_sheet_9 (by decide) (fun c_2 => ?_) (fun c_2 => ?_)
  · have hf := zx_neg c_2 hf
    refine lv_iload_n hx hb dX7_sheet_14 rfl (lv_at hl 2 rfl) ?_
    obtain ⟨r_3, I_3, h_3, hf⟩ := zx_b hf
    refine zx_calli (va_runS (As := [.int x2]) (rest := []) ⟨hx, hb, hml, hown, hts⟩ (mX7_isSort l D ad cA x2 I_1 r_3 I_3 h_3 _) (va_cwS 1 hts gX7_sheet_X7_isSort rfl rfl rfl hd_X7_isSort ⟨Nat.le_of_ble_eq_true rfl, Nat.le_of_ble_eq_true rfl⟩) (zx_preS hG) rfl rfl hl.1 rfl (lv_room (Nat.le_of_ble_eq_true rfl)) dX7_sheet_15 ⟨Nat.le_refl _, Nat.le_refl _⟩) hG (fun H locs hG => ?_)
    refine lv_if_eq (tgt := 27) hx hb dX7_sheet_18 (by decide) (fun c_4 => ?_) (fun c_4 => ?_)
    · have hf := zx_pos c_4 hf
      refine lv_bipush (v := (-2 : Int32)) hx hb dX7_sheet_27 (by decide) ?_
      exact zx_iret hx hb hr hlocks rfl hG hf dX7_sheet_29
    · have hf := zx_neg c_4 hf
      refine lv_iload_n hx hb dX7_sheet_21 rfl (lv_at hl 3 rfl) ?_
      refine lv_bipush (v := (60 : Int32)) hx hb dX7_sheet_22 (by decide) ?_
      refine lv_icmp_le (tgt := 30) hx hb dX7_sheet_24 (by decide) (fun c_5 => ?_) (fun c_5 => ?_)
      · have hf := zx_pos c_5 hf
        refine lv_iload_n hx hb dX7_sheet_30 rfl (lv_at hl 3 rfl) ?_
        refine lv_if_ge (tgt := 40) hx hb dX7_sheet_31 (by decide) (fun c_6 => ?_) (fun c_6 => ?_)
        · have hf := zx_pos c_6 hf
          refine lv_aload_n hx hb dX7_sheet_40 rfl (lv_at hl 0 rfl) ?_
          refine zx_getR (d := 1) hx hb hts hiX7 hown hG shM_0 vc_7 2 (by decide) rfl L2 dX7_sheet_41 ?_
          refine lv_iload_n hx hb dX7_sheet_44 rfl (lv_at hl 1 rfl) ?_
          refine lv_iload_n hx hb dX7_sheet_45 rfl (lv_at hl 2 rfl) ?_
          obtain ⟨g_7, hf⟩ := zx_in hf
          refine zx_ast hx hb hG shM_1 g_7 dX7_sheet_46 (fun H locs hG => ?_)
          refine lv_aload_n hx hb dX7_sheet_47 rfl (lv_at hl 0 rfl) ?_
          refine zx_getR (d := 2) hx hb hts hiX7 hown hG shM_0 vc_7 3 (by decide) rfl L3 dX7_sheet_48 ?_
          refine lv_iload_n hx hb dX7_sheet_51 rfl (lv_at hl 1 rfl) ?_
          refine lv_iload_n hx hb dX7_sheet_52 rfl (lv_at hl 3 rfl) ?_
          refine zx_ast hx hb hG shM_2 g_7 dX7_sheet_53 (fun H locs hG => ?_)
          refine lv_iconst (v := (0 : Int32)) hx hb dX7_sheet_54 (by decide) ?_
          refine lv_istore (lv' := [(4, .int (0 : Int32)), (0, .ref (ad 0)), (1, .int x1), (2, .int x2), (3, .int x3)]) hx hb dX7_sheet_55 hl (by decide) rfl (fun ls hl => ?_)
          have loop57 : ∀ (n : Nat) (v1 : Int32) (v4 : Int32) (I : zxI) (H : Heap) (locs : List Loc) (ls : Array Slot), fX7_sheet_L57 n v1 v4 I = some (r, J) → zxAt D shM ad cA I s sz H locs → lv_has ls 5 [(0, .ref (ad 0)), (1, .int v1), (4, .int v4)] → W p l e (headSpec wsX7_sheet { frames := 2, cells := 0, slots := 0, locals := 42 }).room s m args below meth c H locs 0 0 (MQ below (va_Qi (fun (r2 : Int32) (I2 : zxI) => r2 = r ∧ I2 = J) (zxPost D shM ad cA sz) (zxA shM ad sz)) args s 0 0 (zxA shM ad sz)) (F0 m 57 ls []) := by
            intro n
            induction n with
            | zero =>
              intro v1 v4 I H locs ls hf hG hl
              rw [fX7_sheet_L57] at hf
              cases hf
            | succ n57 ih57 =>
              intro v1 v4 I H locs ls hf hG hl
              rw [fX7_sheet_L57] at hf
              refine lv_iload hx hb dX7_sheet_57 (lv_at hl 2 rfl) ?_
              refine lv_bipush (v := (60 : Int32)) hx hb dX7_sheet_59 (by decide) ?_
              refine lv_icmp_ge (tgt := 83) hx hb dX7_sheet_61 (by decide) (fun c_9 => ?_) (fun c_9 => ?_)
              · have hf := zx_pos c_9 hf
                refine lv_iconst (v := (1 : Int32)) hx hb dX7_sheet_83 (by decide) ?_
                exact zx_iret hx hb hr hlocks rfl hG hf dX7_sheet_84
              · have hf := zx_neg c_9 hf
                refine lv_aload_n hx hb dX7_sheet_64 rfl (lv_at hl 0 rfl) ?_
                refine zx_getR (d := 3) hx hb hts hiX7 hown hG shM_0 vc_7 4 (by decide) rfl L4 dX7_sheet_65 ?_
                refine lv_bipush (v := (60 : Int32)) hx hb dX7_sheet_68 (by decide) ?_
                refine lv_iload_n hx hb dX7_sheet_70 rfl (lv_at hl 1 rfl) ?_
                refine lv_imul hx hb dX7_sheet_71 ?_
                refine lv_iload hx hb dX7_sheet_72 (lv_at hl 2 rfl) ?_
                refine lv_iadd hx hb dX7_sheet_74 ?_
                refine lv_iconst (v := (0 : Int32)) hx hb dX7_sheet_75 (by decide) ?_
                obtain ⟨g_10, hf⟩ := zx_in hf
                refine zx_ast hx hb hG shM_3 g_10 dX7_sheet_76 (fun H locs hG => ?_)
                refine lv_iinc (v := (v4 + (1 : Int32))) (lv' := [(4, .int (v4 + (1 : Int32))), (0, .ref (ad 0)), (1, .int v1)]) hx hb dX7_sheet_77 hl (k := 2) rfl (congrArg (HAdd.hAdd v4) (by decide)) (by decide) rfl (fun ls hl => ?_)
                refine lv_goto (tgt := 57) hx hb dX7_sheet_80 (by decide) ?_
                exact ih57 v1 (v4 + (1 : Int32)) (zxU I 3 (((60 : Int32) * v1) + v4).toNatClampNeg (0 : Int32)) _ _ ls hf hG (lv_sub hl [1, 2, 0] rfl)
          exact loop57 _ x1 (0 : Int32) (zxU (zxU I_3 1 x1.toNatClampNeg x2) 2 x1.toNatClampNeg x3) _ _ ls hf hG (lv_sub hl [1, 2, 0] rfl)
        · have hf := zx_neg c_6 hf
          refine lv_aload_n hx hb dX7_sheet_34 rfl (lv_at hl 0 rfl) ?_
          refine lv_iconst (v := (4 : Int32)) hx hb dX7_sheet_35 (by decide) ?_
          obtain ⟨r_11, I_11, h_11, hf⟩ := zx_b hf
          refine zx_calli (va_runV (As := [.int (4 : Int32)]) (rest := []) ⟨hx, hb, hml, hown, hts⟩ (mX7_fails l D ad cA (4 : Int32) I_3 r_11 I_11 h_11 _) (cwV 1 hts gX7_sheet_X7_fails rfl rfl rfl hd_X7_fails ⟨Nat.le_of_ble_eq_true rfl, Nat.le_of_ble_eq_true rfl⟩) (zx_preV hG shM_0 vc_7) rfl rfl hl.1 rfl (lv_room (Nat.le_of_ble_eq_true rfl)) dX7_sheet_36 ⟨Nat.le_refl _, Nat.le_refl _⟩) hG (fun H locs hG => ?_)
          exact zx_iret hx hb hr hlocks rfl hG hf dX7_sheet_39
      · have hf := zx_neg c_5 hf
        refine lv_bipush (v := (-2 : Int32)) hx hb dX7_sheet_27 (by decide) ?_
        exact zx_iret hx hb hr hlocks rfl hG hf dX7_sheet_29
  · have hf := zx_pos c_2 hf
    refine lv_iconst (v := (-1 : Int32)) hx hb dX7_sheet_12 (by decide) ?_
    exact zx_iret hx hb hr hlocks rfl hG hf dX7_sheet_13

set_option maxHeartbeats 4000000 in
set_option maxRecDepth 100000 in
theorem mX7_lose (l : Launch) (D : va_G) (ad : Nat → Nat) (cA : Nat → ClassId) (x1 : Int32) (I : zxI) (r : Int32) (J : zxI) (hf : fX7_lose x1 I = some (r, J)) (sz : Nat) : Met l yX7_lose wsX7_lose { frames := 2, cells := 0, slots := 0, locals := 42 } (va_Pc [.ref (ad 0), .int x1] (zxPre D shM ad cA I sz)) (va_Qi (fun (r2 : Int32) (I2 : zxI) => r2 = r ∧ I2 = J) (zxPost D shM ad cA sz) (zxA shM ad sz)) 0 0 (zxA shM ad sz) := by
  refine zx_start (by decide) rfl (Nat.le_of_ble_eq_true rfl) ?_
  intro p e s m args below meth c ls hx hb hr hts hown hlocks hml hG hl
  have hl : lv_has ls 3 [(0, .ref (ad 0)), (1, .int x1)] := hl
  have hiX7 : ∀ w ∈ wsX70, w ∈ wsX7_lose := fun w h => List.mem_cons_of_mem _ (List.mem_append_right _ h)
  have L1 := hts (Cond.fieldLink RX7 9 "GalleryBirdsModel" "sorts" "[I") (List.mem_of_getElem? (i := 1) rfl)
  unfold fX7_lose at hf
  refine lv_iload_n hx hb dX7_lose_0 rfl (lv_at hl 1 rfl) ?_
  obtain ⟨r_1, I_1, h_1, hf⟩ := zx_b hf
  refine zx_calli (va_runS (As := [.int x1]) (rest := []) ⟨hx, hb, hml, hown, hts⟩ (mX7_isSheet l D ad cA x1 I r_1 I_1 h_1 _) (va_cwS 1 hts gX7_lose_X7_isSheet rfl rfl rfl hd_X7_isSheet ⟨Nat.le_of_ble_eq_true rfl, Nat.le_of_ble_eq_true rfl⟩) (zx_preS hG) rfl rfl hl.1 rfl (lv_room (Nat.le_of_ble_eq_true rfl)) dX7_lose_1 ⟨Nat.le_refl _, Nat.le_refl _⟩) hG (fun H locs hG => ?_)
  refine lv_if_ne (tgt := 9) hx hb dX7_lose_4 (by decide) (fun c_2 => ?_) (fun c_2 => ?_)
  · have hf := zx_neg c_2 hf
    refine lv_aload_n hx hb dX7_lose_9 rfl (lv_at hl 0 rfl) ?_
    refine zx_getR (d := 1) hx hb hts hiX7 hown hG shM_0 vc_7 2 (by decide) rfl L1 dX7_lose_10 ?_
    refine lv_iload_n hx hb dX7_lose_13 rfl (lv_at hl 1 rfl) ?_
    obtain ⟨g_3, hf⟩ := zx_in hf
    refine zx_ald hx hb hG shM_1 g_3 dX7_lose_14 ?_
    refine lv_bipush (v := (-9 : Int32)) hx hb dX7_lose_15 (by decide) ?_
    refine lv_icmp_ne (tgt := 24) hx hb dX7_lose_17 (by decide) (fun c_4 => ?_) (fun c_4 => ?_)
    · have hf := zx_neg c_4 hf
      refine lv_iconst (v := (1 : Int32)) hx hb dX7_lose_24 (by decide) ?_
      refine lv_istore_n (lv' := [(2, .int (1 : Int32)), (0, .ref (ad 0)), (1, .int x1)]) hx hb dX7_lose_25 rfl hl (by decide) rfl (fun ls hl => ?_)
      refine lv_aload_n hx hb dX7_lose_26 rfl (lv_at hl 1 rfl) ?_
      refine zx_getR (d := 1) hx hb hts hiX7 hown hG shM_0 vc_7 2 (by decide) rfl L1 dX7_lose_27 ?_
      refine lv_iload_n hx hb dX7_lose_30 rfl (lv_at hl 2 rfl) ?_
      refine lv_bipush (v := (-9 : Int32)) hx hb dX7_lose_31 (by decide) ?_
      refine zx_ast hx hb hG shM_1 g_3 dX7_lose_33 (fun H locs hG => ?_)
      refine lv_iload_n hx hb dX7_lose_34 rfl (lv_at hl 0 rfl) ?_
      exact zx_iret hx hb hr hlocks rfl hG hf dX7_lose_35
    · have hf := zx_pos c_4 hf
      refine lv_iconst (v := (0 : Int32)) hx hb dX7_lose_20 (by decide) ?_
      refine lv_goto (tgt := 25) hx hb dX7_lose_21 (by decide) ?_
      refine lv_istore_n (lv' := [(2, .int (0 : Int32)), (0, .ref (ad 0)), (1, .int x1)]) hx hb dX7_lose_25 rfl hl (by decide) rfl (fun ls hl => ?_)
      refine lv_aload_n hx hb dX7_lose_26 rfl (lv_at hl 1 rfl) ?_
      refine zx_getR (d := 1) hx hb hts hiX7 hown hG shM_0 vc_7 2 (by decide) rfl L1 dX7_lose_27 ?_
      refine lv_iload_n hx hb dX7_lose_30 rfl (lv_at hl 2 rfl) ?_
      refine lv_bipush (v := (-9 : Int32)) hx hb dX7_lose_31 (by decide) ?_
      refine zx_ast hx hb hG shM_1 g_3 dX7_lose_33 (fun H locs hG => ?_)
      refine lv_iload_n hx hb dX7_lose_34 rfl (lv_at hl 0 rfl) ?_
      exact zx_iret hx hb hr hlocks rfl hG hf dX7_lose_35
  · have hf := zx_pos c_2 hf
    refine lv_iconst (v := (-1 : Int32)) hx hb dX7_lose_7 (by decide) ?_
    exact zx_iret hx hb hr hlocks rfl hG hf dX7_lose_8

set_option maxHeartbeats 4000000 in
set_option maxRecDepth 100000 in
theorem mX7_put (l : Launch) (D : va_G) (ad : Nat → Nat) (cA : Nat → ClassId) (x1 : Int32) (x2 : Int32) (x3 : Int32) (I : zxI) (r : Int32) (J : zxI) (hf : fX7_put x1 x2 x3 I = some (r, J)) (sz : Nat) : Met l yX7_put wsX7_put { frames := 2, cells := 0, slots := 0, locals := 42 } (va_Pc [.ref (ad 0), .int x1, .int x2, .int x3] (zxPre D shM ad cA I sz)) (va_Qi (fun (r2 : Int32) (I2 : zxI) => r2 = r ∧ I2 = J) (zxPost D shM ad cA sz) (zxA shM ad sz)) 0 0 (zxA shM ad sz) := by
  refine zx_start (by decide) rfl (Nat.le_of_ble_eq_true rfl) ?_
  intro p e s m args below meth c ls hx hb hr hts hown hlocks hml hG hl
  have hl : lv_has ls 4 [(0, .ref (ad 0)), (1, .int x1), (2, .int x2), (3, .int x3)] := hl
  have hiX7 : ∀ w ∈ wsX70, w ∈ wsX7_put := fun w h => List.mem_cons_of_mem _ (List.mem_append_right _ h)
  have L1 := hts (Cond.fieldLink RX7 55 "GalleryBirdsModel" "fault" "I") (List.mem_of_getElem? (i := 1) rfl)
  have L2 := hts (Cond.fieldLink RX7 9 "GalleryBirdsModel" "sorts" "[I") (List.mem_of_getElem? (i := 2) rfl)
  have L3 := hts (Cond.fieldLink RX7 13 "GalleryBirdsModel" "sheetLong" "[I") (List.mem_of_getElem? (i := 3) rfl)
  have L4 := hts (Cond.fieldLink RX7 16 "GalleryBirdsModel" "cells" "[I") (List.mem_of_getElem? (i := 4) rfl)
  unfold fX7_put at hf
  refine lv_aload_n hx hb dX7_put_0 rfl (lv_at hl 0 rfl) ?_
  refine lv_iconst (v := (0 : Int32)) hx hb dX7_put_1 (by decide) ?_
  refine zx_putI hx hb hts hiX7 tyX7 tyX7_ok nmX7 hown hG shM_0 vc_7 0 (by decide) rfl L1 rfl (ty := .int) (tyX7_ok 0 (by decide)) rfl rfl dX7_put_2 (fun H locs hG => ?_)
  refine lv_iload_n hx hb dX7_put_5 rfl (lv_at hl 1 rfl) ?_
  obtain ⟨r_1, I_1, h_1, hf⟩ := zx_b hf
  refine zx_calli (va_runS (As := [.int x1]) (rest := []) ⟨hx, hb, hml, hown, hts⟩ (mX7_isSheet l D ad cA x1 (zxU I 0 0 (0 : Int32)) r_1 I_1 h_1 _) (va_cwS 1 hts gX7_put_X7_isSheet rfl rfl rfl hd_X7_isSheet ⟨Nat.le_of_ble_eq_true rfl, Nat.le_of_ble_eq_true rfl⟩) (zx_preS hG) rfl rfl hl.1 rfl (lv_room (Nat.le_of_ble_eq_true rfl)) dX7_put_6 ⟨Nat.le_refl _, Nat.le_refl _⟩) hG (fun H locs hG => ?_)
  refine lv_if_ne (tgt := 14) hx hb dX7_put_9 (by decide) (fun c_2 => ?_) (fun c_2 => ?_)
  · have hf := zx_neg c_2 hf
    refine lv_aload_n hx hb dX7_put_14 rfl (lv_at hl 0 rfl) ?_
    refine zx_getR (d := 1) hx hb hts hiX7 hown hG shM_0 vc_7 2 (by decide) rfl L2 dX7_put_15 ?_
    refine lv_iload_n hx hb dX7_put_18 rfl (lv_at hl 1 rfl) ?_
    obtain ⟨g_3, hf⟩ := zx_in hf
    refine zx_ald hx hb hG shM_1 g_3 dX7_put_19 ?_
    refine lv_bipush (v := (-9 : Int32)) hx hb dX7_put_20 (by decide) ?_
    refine lv_icmp_ne (tgt := 31) hx hb dX7_put_22 (by decide) (fun c_4 => ?_) (fun c_4 => ?_)
    · have hf := zx_neg c_4 hf
      refine lv_iload_n hx hb dX7_put_31 rfl (lv_at hl 2 rfl) ?_
      refine lv_iconst (v := (0 : Int32)) hx hb dX7_put_32 (by decide) ?_
      refine lv_aload_n hx hb dX7_put_33 rfl (lv_at hl 0 rfl) ?_
      refine zx_getR (d := 2) hx hb hts hiX7 hown hG shM_0 vc_7 3 (by decide) rfl L3 dX7_put_34 ?_
      refine lv_iload_n hx hb dX7_put_37 rfl (lv_at hl 1 rfl) ?_
      refine zx_ald hx hb hG shM_2 g_3 dX7_put_38 ?_
      refine lv_iconst (v := (1 : Int32)) hx hb dX7_put_39 (by decide) ?_
      refine lv_isub hx hb dX7_put_40 ?_
      obtain ⟨r_6, I_6, h_6, hf⟩ := zx_b hf
      refine zx_calli (va_runS (As := [.int x2, .int (0 : Int32), .int ((I_1 2 x1.toNatClampNeg) - (1 : Int32))]) (rest := []) ⟨hx, hb, hml, hown, hts⟩ (mX7_within l D ad cA x2 (0 : Int32) ((I_1 2 x1.toNatClampNeg) - (1 : Int32)) I_1 r_6 I_6 h_6 _) (va_cwS 3 hts gX7_put_X7_within rfl rfl rfl hd_X7_within ⟨Nat.le_of_ble_eq_true rfl, Nat.le_of_ble_eq_true rfl⟩) (zx_preS hG) rfl rfl hl.1 rfl (lv_room (Nat.le_of_ble_eq_true rfl)) dX7_put_41 ⟨Nat.le_refl _, Nat.le_refl _⟩) hG (fun H locs hG => ?_)
      refine lv_if_ne (tgt := 53) hx hb dX7_put_44 (by decide) (fun c_7 => ?_) (fun c_7 => ?_)
      · have hf := zx_neg c_7 hf
        refine lv_aload_n hx hb dX7_put_53 rfl (lv_at hl 0 rfl) ?_
        refine zx_getR (d := 3) hx hb hts hiX7 hown hG shM_0 vc_7 4 (by decide) rfl L4 dX7_put_54 ?_
        refine lv_bipush (v := (60 : Int32)) hx hb dX7_put_57 (by decide) ?_
        refine lv_iload_n hx hb dX7_put_59 rfl (lv_at hl 1 rfl) ?_
        refine lv_imul hx hb dX7_put_60 ?_
        refine lv_iload_n hx hb dX7_put_61 rfl (lv_at hl 2 rfl) ?_
        refine lv_iadd hx hb dX7_put_62 ?_
        refine lv_aload_n hx hb dX7_put_63 rfl (lv_at hl 0 rfl) ?_
        refine zx_getR (d := 1) hx hb hts hiX7 hown hG shM_0 vc_7 2 (by decide) rfl L2 dX7_put_64 ?_
        refine lv_iload_n hx hb dX7_put_67 rfl (lv_at hl 1 rfl) ?_
        refine zx_ald hx hb hG shM_1 g_3 dX7_put_68 ?_
        refine lv_if_ne (tgt := 77) hx hb dX7_put_69 (by decide) (fun c_9 => ?_) (fun c_9 => ?_)
        · have hf := zx_neg c_9 hf
          refine lv_aload_n hx hb dX7_put_77 rfl (lv_at hl 0 rfl) ?_
          refine zx_getR (d := 1) hx hb hts hiX7 hown hG shM_0 vc_7 2 (by decide) rfl L2 dX7_put_78 ?_
          refine lv_iload_n hx hb dX7_put_81 rfl (lv_at hl 1 rfl) ?_
          refine zx_ald hx hb hG shM_1 g_3 dX7_put_82 ?_
          refine lv_iconst (v := (1 : Int32)) hx hb dX7_put_83 (by decide) ?_
          refine lv_icmp_ne (tgt := 92) hx hb dX7_put_84 (by decide) (fun c_11 => ?_) (fun c_11 => ?_)
          · have hf := zx_neg c_11 hf
            refine lv_iload_n hx hb dX7_put_92 rfl (lv_at hl 3 rfl) ?_
            obtain ⟨g_12, hf⟩ := zx_in hf
            refine zx_ast hx hb hG shM_3 g_12 dX7_put_93 (fun H locs hG => ?_)
            refine lv_iconst (v := (1 : Int32)) hx hb dX7_put_94 (by decide) ?_
            exact zx_iret hx hb hr hlocks rfl hG hf dX7_put_95
          · have hf := zx_pos c_11 hf
            refine lv_iload_n hx hb dX7_put_87 rfl (lv_at hl 3 rfl) ?_
            refine lv_i2s (v := (x3.toInt16.toInt32)) hx hb dX7_put_88 rfl ?_
            refine lv_goto (tgt := 93) hx hb dX7_put_89 (by decide) ?_
            obtain ⟨g_13, hf⟩ := zx_in hf
            refine zx_ast hx hb hG shM_3 g_13 dX7_put_93 (fun H locs hG => ?_)
            refine lv_iconst (v := (1 : Int32)) hx hb dX7_put_94 (by decide) ?_
            exact zx_iret hx hb hr hlocks rfl hG hf dX7_put_95
        · have hf := zx_pos c_9 hf
          refine lv_iload_n hx hb dX7_put_72 rfl (lv_at hl 3 rfl) ?_
          refine lv_i2b (v := (x3.toInt8.toInt32)) hx hb dX7_put_73 rfl ?_
          refine lv_goto (tgt := 93) hx hb dX7_put_74 (by decide) ?_
          obtain ⟨g_14, hf⟩ := zx_in hf
          refine zx_ast hx hb hG shM_3 g_14 dX7_put_93 (fun H locs hG => ?_)
          refine lv_iconst (v := (1 : Int32)) hx hb dX7_put_94 (by decide) ?_
          exact zx_iret hx hb hr hlocks rfl hG hf dX7_put_95
      · have hf := zx_pos c_7 hf
        refine lv_aload_n hx hb dX7_put_47 rfl (lv_at hl 0 rfl) ?_
        refine lv_iconst (v := (3 : Int32)) hx hb dX7_put_48 (by decide) ?_
        obtain ⟨r_15, I_15, h_15, hf⟩ := zx_b hf
        refine zx_calli (va_runV (As := [.int (3 : Int32)]) (rest := []) ⟨hx, hb, hml, hown, hts⟩ (mX7_fails l D ad cA (3 : Int32) I_6 r_15 I_15 h_15 _) (cwV 1 hts gX7_put_X7_fails rfl rfl rfl hd_X7_fails ⟨Nat.le_of_ble_eq_true rfl, Nat.le_of_ble_eq_true rfl⟩) (zx_preV hG shM_0 vc_7) rfl rfl hl.1 rfl (lv_room (Nat.le_of_ble_eq_true rfl)) dX7_put_49 ⟨Nat.le_refl _, Nat.le_refl _⟩) hG (fun H locs hG => ?_)
        exact zx_iret hx hb hr hlocks rfl hG hf dX7_put_52
    · have hf := zx_pos c_4 hf
      refine lv_aload_n hx hb dX7_put_25 rfl (lv_at hl 0 rfl) ?_
      refine lv_iconst (v := (1 : Int32)) hx hb dX7_put_26 (by decide) ?_
      obtain ⟨r_16, I_16, h_16, hf⟩ := zx_b hf
      refine zx_calli (va_runV (As := [.int (1 : Int32)]) (rest := []) ⟨hx, hb, hml, hown, hts⟩ (mX7_fails l D ad cA (1 : Int32) I_1 r_16 I_16 h_16 _) (cwV 1 hts gX7_put_X7_fails rfl rfl rfl hd_X7_fails ⟨Nat.le_of_ble_eq_true rfl, Nat.le_of_ble_eq_true rfl⟩) (zx_preV hG shM_0 vc_7) rfl rfl hl.1 rfl (lv_room (Nat.le_of_ble_eq_true rfl)) dX7_put_27 ⟨Nat.le_refl _, Nat.le_refl _⟩) hG (fun H locs hG => ?_)
      exact zx_iret hx hb hr hlocks rfl hG hf dX7_put_30
  · have hf := zx_pos c_2 hf
    refine lv_iconst (v := (-1 : Int32)) hx hb dX7_put_12 (by decide) ?_
    exact zx_iret hx hb hr hlocks rfl hG hf dX7_put_13

set_option maxHeartbeats 4000000 in
set_option maxRecDepth 100000 in
theorem mX7_cell (l : Launch) (D : va_G) (ad : Nat → Nat) (cA : Nat → ClassId) (x1 : Int32) (x2 : Int32) (x3 : Int32) (I : zxI) (r : Int64) (J : zxI) (hf : fX7_cell x1 x2 x3 I = some (r, J)) (sz : Nat) : Met l yX7_cell wsX7_cell { frames := 2, cells := 0, slots := 0, locals := 42 } (va_Pc [.ref (ad 0), .int x1, .int x2, .int x3] (zxPre D shM ad cA I sz)) (va_Ql (fun (r2 : Int64) (I2 : zxI) => r2 = r ∧ I2 = J) (zxPost D shM ad cA sz) (zxA shM ad sz)) 0 0 (zxA shM ad sz) := by
  refine zx_start (by decide) rfl (Nat.le_of_ble_eq_true rfl) ?_
  intro p e s m args below meth c ls hx hb hr hts hown hlocks hml hG hl
  have hl : lv_has ls 4 [(0, .ref (ad 0)), (1, .int x1), (2, .int x2), (3, .int x3)] := hl
  have hiX7 : ∀ w ∈ wsX70, w ∈ wsX7_cell := fun w h => List.mem_cons_of_mem _ (List.mem_append_right _ h)
  have L1 := hts (Cond.fieldLink RX7 55 "GalleryBirdsModel" "fault" "I") (List.mem_of_getElem? (i := 1) rfl)
  have L2 := hts (Cond.constantLong RX7 59 (-9223372036854775808)) (List.mem_of_getElem? (i := 2) rfl)
  have L3 := hts (Cond.fieldLink RX7 9 "GalleryBirdsModel" "sorts" "[I") (List.mem_of_getElem? (i := 3) rfl)
  have L4 := hts (Cond.fieldLink RX7 13 "GalleryBirdsModel" "sheetLong" "[I") (List.mem_of_getElem? (i := 4) rfl)
  have L5 := hts (Cond.fieldLink RX7 16 "GalleryBirdsModel" "cells" "[I") (List.mem_of_getElem? (i := 5) rfl)
  unfold fX7_cell at hf
  refine lv_aload_n hx hb dX7_cell_0 rfl (lv_at hl 0 rfl) ?_
  refine lv_iconst (v := (0 : Int32)) hx hb dX7_cell_1 (by decide) ?_
  refine zx_putI hx hb hts hiX7 tyX7 tyX7_ok nmX7 hown hG shM_0 vc_7 0 (by decide) rfl L1 rfl (ty := .int) (tyX7_ok 0 (by decide)) rfl rfl dX7_cell_2 (fun H locs hG => ?_)
  refine lv_iload_n hx hb dX7_cell_5 rfl (lv_at hl 1 rfl) ?_
  obtain ⟨r_1, I_1, h_1, hf⟩ := zx_b hf
  refine zx_calli (va_runS (As := [.int x1]) (rest := []) ⟨hx, hb, hml, hown, hts⟩ (mX7_isSheet l D ad cA x1 (zxU I 0 0 (0 : Int32)) r_1 I_1 h_1 _) (va_cwS 1 hts gX7_cell_X7_isSheet rfl rfl rfl hd_X7_isSheet ⟨Nat.le_of_ble_eq_true rfl, Nat.le_of_ble_eq_true rfl⟩) (zx_preS hG) rfl rfl hl.1 rfl (lv_room (Nat.le_of_ble_eq_true rfl)) dX7_cell_6 ⟨Nat.le_refl _, Nat.le_refl _⟩) hG (fun H locs hG => ?_)
  refine lv_if_eq (tgt := 19) hx hb dX7_cell_9 (by decide) (fun c_2 => ?_) (fun c_2 => ?_)
  · have hf := zx_pos c_2 hf
    refine lv_ldc2 (v := (-9223372036854775808 : Int64)) hx hb hown L2 dX7_cell_19 ?_
    exact zx_lret hx hb hr hlocks hG hf dX7_cell_22
  · have hf := zx_neg c_2 hf
    refine lv_iload_n hx hb dX7_cell_12 rfl (lv_at hl 3 rfl) ?_
    obtain ⟨r_3, I_3, h_3, hf⟩ := zx_b hf
    refine zx_calli (va_runS (As := [.int x3]) (rest := []) ⟨hx, hb, hml, hown, hts⟩ (mX7_isSort l D ad cA x3 I_1 r_3 I_3 h_3 _) (va_cwS 1 hts gX7_cell_X7_isSort rfl rfl rfl hd_X7_isSort ⟨Nat.le_of_ble_eq_true rfl, Nat.le_of_ble_eq_true rfl⟩) (zx_preS hG) rfl rfl hl.1 rfl (lv_room (Nat.le_of_ble_eq_true rfl)) dX7_cell_13 ⟨Nat.le_refl _, Nat.le_refl _⟩) hG (fun H locs hG => ?_)
    refine lv_if_ne (tgt := 23) hx hb dX7_cell_16 (by decide) (fun c_4 => ?_) (fun c_4 => ?_)
    · have hf := zx_neg c_4 hf
      refine lv_aload_n hx hb dX7_cell_23 rfl (lv_at hl 0 rfl) ?_
      refine zx_getR (d := 1) hx hb hts hiX7 hown hG shM_0 vc_7 2 (by decide) rfl L3 dX7_cell_24 ?_
      refine lv_iload_n hx hb dX7_cell_27 rfl (lv_at hl 1 rfl) ?_
      obtain ⟨g_5, hf⟩ := zx_in hf
      refine zx_ald hx hb hG shM_1 g_5 dX7_cell_28 ?_
      refine lv_bipush (v := (-9 : Int32)) hx hb dX7_cell_29 (by decide) ?_
      refine lv_icmp_eq (tgt := 50) hx hb dX7_cell_31 (by decide) (fun c_6 => ?_) (fun c_6 => ?_)
      · have hf := zx_pos c_6 hf
        refine lv_aload_n hx hb dX7_cell_50 rfl (lv_at hl 0 rfl) ?_
        refine zx_getR (d := 1) hx hb hts hiX7 hown hG shM_0 vc_7 2 (by decide) rfl L3 dX7_cell_51 ?_
        refine lv_iload_n hx hb dX7_cell_54 rfl (lv_at hl 1 rfl) ?_
        refine zx_ald hx hb hG shM_1 g_5 dX7_cell_55 ?_
        refine lv_bipush (v := (-9 : Int32)) hx hb dX7_cell_56 (by decide) ?_
        refine lv_icmp_ne (tgt := 67) hx hb dX7_cell_58 (by decide) (fun c_8 => ?_) (fun c_8 => ?_)
        · have hf := zx_neg c_8 hf
          refine lv_iload_n hx hb dX7_cell_67 rfl (lv_at hl 2 rfl) ?_
          refine lv_iconst (v := (0 : Int32)) hx hb dX7_cell_68 (by decide) ?_
          refine lv_aload_n hx hb dX7_cell_69 rfl (lv_at hl 0 rfl) ?_
          refine zx_getR (d := 2) hx hb hts hiX7 hown hG shM_0 vc_7 3 (by decide) rfl L4 dX7_cell_70 ?_
          refine lv_iload_n hx hb dX7_cell_73 rfl (lv_at hl 1 rfl) ?_
          refine zx_ald hx hb hG shM_2 g_5 dX7_cell_74 ?_
          refine lv_iconst (v := (1 : Int32)) hx hb dX7_cell_75 (by decide) ?_
          refine lv_isub hx hb dX7_cell_76 ?_
          obtain ⟨r_10, I_10, h_10, hf⟩ := zx_b hf
          refine zx_calli (va_runS (As := [.int x2, .int (0 : Int32), .int ((I_3 2 x1.toNatClampNeg) - (1 : Int32))]) (rest := []) ⟨hx, hb, hml, hown, hts⟩ (mX7_within l D ad cA x2 (0 : Int32) ((I_3 2 x1.toNatClampNeg) - (1 : Int32)) I_3 r_10 I_10 h_10 _) (va_cwS 3 hts gX7_cell_X7_within rfl rfl rfl hd_X7_within ⟨Nat.le_of_ble_eq_true rfl, Nat.le_of_ble_eq_true rfl⟩) (zx_preS hG) rfl rfl hl.1 rfl (lv_room (Nat.le_of_ble_eq_true rfl)) dX7_cell_77 ⟨Nat.le_refl _, Nat.le_refl _⟩) hG (fun H locs hG => ?_)
          refine lv_if_ne (tgt := 89) hx hb dX7_cell_80 (by decide) (fun c_11 => ?_) (fun c_11 => ?_)
          · have hf := zx_neg c_11 hf
            refine lv_aload_n hx hb dX7_cell_89 rfl (lv_at hl 0 rfl) ?_
            refine zx_getR (d := 3) hx hb hts hiX7 hown hG shM_0 vc_7 4 (by decide) rfl L5 dX7_cell_90 ?_
            refine lv_bipush (v := (60 : Int32)) hx hb dX7_cell_93 (by decide) ?_
            refine lv_iload_n hx hb dX7_cell_95 rfl (lv_at hl 1 rfl) ?_
            refine lv_imul hx hb dX7_cell_96 ?_
            refine lv_iload_n hx hb dX7_cell_97 rfl (lv_at hl 2 rfl) ?_
            refine lv_iadd hx hb dX7_cell_98 ?_
            obtain ⟨g_12, hf⟩ := zx_in hf
            refine zx_ald hx hb hG shM_3 g_12 dX7_cell_99 ?_
            refine lv_i2l (v := ((I_10 3 (((60 : Int32) * x1) + x2).toNatClampNeg).toInt64)) hx hb dX7_cell_100 rfl ?_
            exact zx_lret hx hb hr hlocks hG hf dX7_cell_101
          · have hf := zx_pos c_11 hf
            refine lv_aload_n hx hb dX7_cell_83 rfl (lv_at hl 0 rfl) ?_
            refine lv_iconst (v := (3 : Int32)) hx hb dX7_cell_84 (by decide) ?_
            obtain ⟨r_13, I_13, h_13, hf⟩ := zx_b hf
            refine zx_calll (va_runV (As := [.int (3 : Int32)]) (rest := []) ⟨hx, hb, hml, hown, hts⟩ (mX7_lost l D ad cA (3 : Int32) I_10 r_13 I_13 h_13 _) (cwV 1 hts gX7_cell_X7_lost rfl rfl rfl hd_X7_lost ⟨Nat.le_of_ble_eq_true rfl, Nat.le_of_ble_eq_true rfl⟩) (zx_preV hG shM_0 vc_7) rfl rfl hl.1 rfl (lv_room (Nat.le_of_ble_eq_true rfl)) dX7_cell_85 ⟨Nat.le_refl _, Nat.le_refl _⟩) hG (fun H locs hG => ?_)
            exact zx_lret hx hb hr hlocks hG hf dX7_cell_88
        · have hf := zx_pos c_8 hf
          refine lv_aload_n hx hb dX7_cell_61 rfl (lv_at hl 0 rfl) ?_
          refine lv_iconst (v := (1 : Int32)) hx hb dX7_cell_62 (by decide) ?_
          obtain ⟨r_14, I_14, h_14, hf⟩ := zx_b hf
          refine zx_calll (va_runV (As := [.int (1 : Int32)]) (rest := []) ⟨hx, hb, hml, hown, hts⟩ (mX7_lost l D ad cA (1 : Int32) I_3 r_14 I_14 h_14 _) (cwV 1 hts gX7_cell_X7_lost rfl rfl rfl hd_X7_lost ⟨Nat.le_of_ble_eq_true rfl, Nat.le_of_ble_eq_true rfl⟩) (zx_preV hG shM_0 vc_7) rfl rfl hl.1 rfl (lv_room (Nat.le_of_ble_eq_true rfl)) dX7_cell_63 ⟨Nat.le_refl _, Nat.le_refl _⟩) hG (fun H locs hG => ?_)
          exact zx_lret hx hb hr hlocks hG hf dX7_cell_66
      · have hf := zx_neg c_6 hf
        refine lv_aload_n hx hb dX7_cell_34 rfl (lv_at hl 0 rfl) ?_
        refine zx_getR (d := 1) hx hb hts hiX7 hown hG shM_0 vc_7 2 (by decide) rfl L3 dX7_cell_35 ?_
        refine lv_iload_n hx hb dX7_cell_38 rfl (lv_at hl 1 rfl) ?_
        refine zx_ald hx hb hG shM_1 g_5 dX7_cell_39 ?_
        refine lv_iload_n hx hb dX7_cell_40 rfl (lv_at hl 3 rfl) ?_
        refine lv_icmp_eq (tgt := 50) hx hb dX7_cell_41 (by decide) (fun c_16 => ?_) (fun c_16 => ?_)
        · have hf := zx_pos c_16 hf
          refine lv_aload_n hx hb dX7_cell_50 rfl (lv_at hl 0 rfl) ?_
          refine zx_getR (d := 1) hx hb hts hiX7 hown hG shM_0 vc_7 2 (by decide) rfl L3 dX7_cell_51 ?_
          refine lv_iload_n hx hb dX7_cell_54 rfl (lv_at hl 1 rfl) ?_
          refine zx_ald hx hb hG shM_1 g_5 dX7_cell_55 ?_
          refine lv_bipush (v := (-9 : Int32)) hx hb dX7_cell_56 (by decide) ?_
          refine lv_icmp_ne (tgt := 67) hx hb dX7_cell_58 (by decide) (fun c_18 => ?_) (fun c_18 => ?_)
          · have hf := zx_neg c_18 hf
            refine lv_iload_n hx hb dX7_cell_67 rfl (lv_at hl 2 rfl) ?_
            refine lv_iconst (v := (0 : Int32)) hx hb dX7_cell_68 (by decide) ?_
            refine lv_aload_n hx hb dX7_cell_69 rfl (lv_at hl 0 rfl) ?_
            refine zx_getR (d := 2) hx hb hts hiX7 hown hG shM_0 vc_7 3 (by decide) rfl L4 dX7_cell_70 ?_
            refine lv_iload_n hx hb dX7_cell_73 rfl (lv_at hl 1 rfl) ?_
            refine zx_ald hx hb hG shM_2 g_5 dX7_cell_74 ?_
            refine lv_iconst (v := (1 : Int32)) hx hb dX7_cell_75 (by decide) ?_
            refine lv_isub hx hb dX7_cell_76 ?_
            obtain ⟨r_20, I_20, h_20, hf⟩ := zx_b hf
            refine zx_calli (va_runS (As := [.int x2, .int (0 : Int32), .int ((I_3 2 x1.toNatClampNeg) - (1 : Int32))]) (rest := []) ⟨hx, hb, hml, hown, hts⟩ (mX7_within l D ad cA x2 (0 : Int32) ((I_3 2 x1.toNatClampNeg) - (1 : Int32)) I_3 r_20 I_20 h_20 _) (va_cwS 3 hts gX7_cell_X7_within rfl rfl rfl hd_X7_within ⟨Nat.le_of_ble_eq_true rfl, Nat.le_of_ble_eq_true rfl⟩) (zx_preS hG) rfl rfl hl.1 rfl (lv_room (Nat.le_of_ble_eq_true rfl)) dX7_cell_77 ⟨Nat.le_refl _, Nat.le_refl _⟩) hG (fun H locs hG => ?_)
            refine lv_if_ne (tgt := 89) hx hb dX7_cell_80 (by decide) (fun c_21 => ?_) (fun c_21 => ?_)
            · have hf := zx_neg c_21 hf
              refine lv_aload_n hx hb dX7_cell_89 rfl (lv_at hl 0 rfl) ?_
              refine zx_getR (d := 3) hx hb hts hiX7 hown hG shM_0 vc_7 4 (by decide) rfl L5 dX7_cell_90 ?_
              refine lv_bipush (v := (60 : Int32)) hx hb dX7_cell_93 (by decide) ?_
              refine lv_iload_n hx hb dX7_cell_95 rfl (lv_at hl 1 rfl) ?_
              refine lv_imul hx hb dX7_cell_96 ?_
              refine lv_iload_n hx hb dX7_cell_97 rfl (lv_at hl 2 rfl) ?_
              refine lv_iadd hx hb dX7_cell_98 ?_
              obtain ⟨g_22, hf⟩ := zx_in hf
              refine zx_ald hx hb hG shM_3 g_22 dX7_cell_99 ?_
              refine lv_i2l (v := ((I_20 3 (((60 : Int32) * x1) + x2).toNatClampNeg).toInt64)) hx hb dX7_cell_100 rfl ?_
              exact zx_lret hx hb hr hlocks hG hf dX7_cell_101
            · have hf := zx_pos c_21 hf
              refine lv_aload_n hx hb dX7_cell_83 rfl (lv_at hl 0 rfl) ?_
              refine lv_iconst (v := (3 : Int32)) hx hb dX7_cell_84 (by decide) ?_
              obtain ⟨r_23, I_23, h_23, hf⟩ := zx_b hf
              refine zx_calll (va_runV (As := [.int (3 : Int32)]) (rest := []) ⟨hx, hb, hml, hown, hts⟩ (mX7_lost l D ad cA (3 : Int32) I_20 r_23 I_23 h_23 _) (cwV 1 hts gX7_cell_X7_lost rfl rfl rfl hd_X7_lost ⟨Nat.le_of_ble_eq_true rfl, Nat.le_of_ble_eq_true rfl⟩) (zx_preV hG shM_0 vc_7) rfl rfl hl.1 rfl (lv_room (Nat.le_of_ble_eq_true rfl)) dX7_cell_85 ⟨Nat.le_refl _, Nat.le_refl _⟩) hG (fun H locs hG => ?_)
              exact zx_lret hx hb hr hlocks hG hf dX7_cell_88
          · have hf := zx_pos c_18 hf
            refine lv_aload_n hx hb dX7_cell_61 rfl (lv_at hl 0 rfl) ?_
            refine lv_iconst (v := (1 : Int32)) hx hb dX7_cell_62 (by decide) ?_
            obtain ⟨r_24, I_24, h_24, hf⟩ := zx_b hf
            refine zx_calll (va_runV (As := [.int (1 : Int32)]) (rest := []) ⟨hx, hb, hml, hown, hts⟩ (mX7_lost l D ad cA (1 : Int32) I_3 r_24 I_24 h_24 _) (cwV 1 hts gX7_cell_X7_lost rfl rfl rfl hd_X7_lost ⟨Nat.le_of_ble_eq_true rfl, Nat.le_of_ble_eq_true rfl⟩) (zx_preV hG shM_0 vc_7) rfl rfl hl.1 rfl (lv_room (Nat.le_of_ble_eq_true rfl)) dX7_cell_63 ⟨Nat.le_refl _, Nat.le_refl _⟩) hG (fun H locs hG => ?_)
            exact zx_lret hx hb hr hlocks hG hf dX7_cell_66
        · have hf := zx_neg c_16 hf
          refine lv_aload_n hx hb dX7_cell_44 rfl (lv_at hl 0 rfl) ?_
          refine lv_iconst (v := (2 : Int32)) hx hb dX7_cell_45 (by decide) ?_
          obtain ⟨r_25, I_25, h_25, hf⟩ := zx_b hf
          refine zx_calll (va_runV (As := [.int (2 : Int32)]) (rest := []) ⟨hx, hb, hml, hown, hts⟩ (mX7_lost l D ad cA (2 : Int32) I_3 r_25 I_25 h_25 _) (cwV 1 hts gX7_cell_X7_lost rfl rfl rfl hd_X7_lost ⟨Nat.le_of_ble_eq_true rfl, Nat.le_of_ble_eq_true rfl⟩) (zx_preV hG shM_0 vc_7) rfl rfl hl.1 rfl (lv_room (Nat.le_of_ble_eq_true rfl)) dX7_cell_46 ⟨Nat.le_refl _, Nat.le_refl _⟩) hG (fun H locs hG => ?_)
          exact zx_lret hx hb hr hlocks hG hf dX7_cell_49
    · have hf := zx_pos c_4 hf
      refine lv_ldc2 (v := (-9223372036854775808 : Int64)) hx hb hown L2 dX7_cell_19 ?_
      exact zx_lret hx hb hr hlocks hG hf dX7_cell_22
