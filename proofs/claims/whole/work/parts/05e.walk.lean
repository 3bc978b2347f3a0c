/-! walks of methods (laid by wip/whole/gen.py) -/
set_option maxHeartbeats 4000000 in
set_option maxRecDepth 100000 in
theorem mX6_put (l : Launch) (D : va_G) (ad : Nat → Nat) (cA : Nat → ClassId) (x1 : Int32) (x2 : Int32) (x3 : Int32) (I : zxI) (r : Int32) (J : zxI) (hf : fX6_put x1 x2 x3 I = some (r, J)) (sz : Nat) : Met l yX6_put wsX6_put { frames := 2, cells := 0, slots := 0, locals := 45 } (va_Pc [.ref (ad 0), .int x1, .int x2, .int x3] (zxPre D shX ad cA I sz)) (va_Qi (fun (r2 : Int32) (I2 : zxI) => r2 = r ∧ I2 = J) (zxPost D shX ad cA sz) (zxA shX ad sz)) 0 0 (zxA shX ad sz) := by
  refine zx_start (by decide) rfl (Nat.le_of_ble_eq_true rfl) ?_
  intro p e s m args below meth c ls hx hb hr hts hown hlocks hml hG hl
  have hl : lv_has ls 6 [(0, .ref (ad 0)), (1, .int x1), (2, .int x2), (3, .int x3)] := hl
  have hiX5 : ∀ w ∈ wsX50, w ∈ wsX6_put := fun w h => List.mem_cons_of_mem _ (List.mem_append_right _ h)
  have hiX6 : ∀ w ∈ wsX60, w ∈ wsX6_put := fun w h => List.mem_cons_of_mem _ (List.mem_append_left _ (List.mem_append_right _ h))
  have L1 := hts (Cond.fieldLink RX6 67 "GalleryBirds" "lastFault" "I") (List.mem_of_getElem? (i := 1) rfl)
  have L2 := hts (Cond.fieldLink RX6 13 "GalleryBirds" "sheets" "[LGalleryBirds$Sheet;") (List.mem_of_getElem? (i := 2) rfl)
  have L3 := hts (Cond.fieldLink RX6 231 "GalleryBirds$Sheet" "lane" "I") (List.mem_of_getElem? (i := 3) rfl)
  have L4 := hts (Cond.fieldLink RX6 86 "GalleryBirds$Sheet" "cells" "[I") (List.mem_of_getElem? (i := 4) rfl)
  unfold fX6_put at hf
  refine lv_aload_n hx hb dX6_put_0 rfl (lv_at hl 0 rfl) ?_
  refine lv_iconst (v := (0 : Int32)) hx hb dX6_put_1 (by decide) ?_
  refine zx_putI hx hb hts hiX6 tyX6 tyX6_ok nmX6 hown hG shX_0 vc_6 10 (by decide) rfl L1 rfl (ty := .int) (tyX6_ok 10 (by decide)) rfl rfl dX6_put_2 (fun H locs hG => ?_)
  refine lv_iload_n hx hb dX6_put_5 rfl (lv_at hl 1 rfl) ?_
  obtain ⟨r_1, I_1, h_1, hf⟩ := zx_b hf
  refine zx_calli (va_runS (As := [.int x1]) (rest := []) ⟨hx, hb, hml, hown, hts⟩ (mX6_isSheet l D ad cA x1 (zxU I 0 10 (0 : Int32)) r_1 I_1 h_1 _) (va_cwS 1 hts gX6_put_X6_isSheet rfl rfl rfl hd_X6_isSheet ⟨Nat.le_of_ble_eq_true rfl, Nat.le_of_ble_eq_true rfl⟩) (zx_preS hG) rfl rfl hl.1 rfl (lv_room (Nat.le_of_ble_eq_true rfl)) dX6_put_6 ⟨Nat.le_refl _, Nat.le_refl _⟩) hG (fun H locs hG => ?_)
  refine lv_if_ne (tgt := 14) hx hb dX6_put_9 (by decide) (fun c_2 => ?_) (fun c_2 => ?_)
  · have hf := zx_neg c_2 hf
    refine lv_aload_n hx hb dX6_put_14 rfl (lv_at hl 0 rfl) ?_
    refine zx_getR (d := 1) hx hb hts hiX6 hown hG shX_0 vc_6 0 (by decide) rfl L2 dX6_put_15 ?_
    refine lv_iload_n hx hb dX6_put_18 rfl (lv_at hl 1 rfl) ?_
    obtain ⟨g_3, hf⟩ := zx_in hf
    refine zx_aldR (d := (zsO (x1.toNatClampNeg))) (t := 1) hx hb hG shX_1 rfl g_3 (shX_rs (zx_lt g_3)) dX6_put_19 ?_
    refine lv_astore (lv' := [(4, .ref (ad (zsO (x1.toNatClampNeg)))), (0, .ref (ad 0)), (1, .int x1), (2, .int x2), (3, .int x3)]) hx hb dX6_put_20 hl (by decide) rfl (fun ls hl => ?_)
    refine lv_aload hx hb dX6_put_22 (lv_at hl 0 rfl) ?_
    refine lv_aload hx hb dX6_put_24 (lv_at hl 0 rfl) ?_
    refine zx_getI hx hb hts hiX5 hown hG (shX_sO (zx_lt g_3)) vc_5 1 (by decide) rfl L3 dX6_put_26 ?_
    refine lv_iload_n hx hb dX6_put_29 rfl (lv_at hl 3 rfl) ?_
    refine lv_iconst (v := (1 : Int32)) hx hb dX6_put_30 (by decide) ?_
    obtain ⟨r_4, I_4, h_4, hf⟩ := zx_b hf
    refine zx_calli (va_runV (As := [.int (I_1 (zsO (x1.toNatClampNeg)) 1), .int x2, .int (1 : Int32)]) (rest := []) ⟨hx, hb, hml, hown, hts⟩ (mX5_faultOfCells l D ad cA (x1.toNatClampNeg) (zx_lt g_3) (I_1 (zsO (x1.toNatClampNeg)) 1) x2 (1 : Int32) I_1 r_4 I_4 h_4 _) (cwV 3 hts gX6_put_X5_faultOfCells rfl rfl rfl hd_X5_faultOfCells ⟨Nat.le_of_ble_eq_true rfl, Nat.le_of_ble_eq_true rfl⟩) (zx_preV hG (shX_sO (zx_lt g_3)) vc_5) rfl rfl hl.1 rfl (lv_room (Nat.le_of_ble_eq_true rfl)) dX6_put_31 ⟨Nat.le_refl _, Nat.le_refl _⟩) hG (fun H locs hG => ?_)
    refine lv_istore (lv' := [(5, .int r_4), (4, .ref (ad (zsO (x1.toNatClampNeg)))), (0, .ref (ad 0)), (1, .int x1), (2, .int x2), (3, .int x3)]) hx hb dX6_put_34 hl (by decide) rfl (fun ls hl => ?_)
    refine lv_iload hx hb dX6_put_36 (lv_at hl 0 rfl) ?_
    refine lv_if_eq (tgt := 48) hx hb dX6_put_38 (by decide) (fun c_5 => ?_) (fun c_5 => ?_)
    · have hf := zx_pos c_5 hf
      refine lv_aload hx hb dX6_put_48 (lv_at hl 1 rfl) ?_
      refine zx_getR (d := (zsC (x1.toNatClampNeg))) hx hb hts hiX5 hown hG (shX_sO (zx_lt g_3)) vc_5 2 (by decide) rfl L4 dX6_put_50 ?_
      refine lv_iload_n hx hb dX6_put_53 rfl (lv_at hl 4 rfl) ?_
      refine lv_iload_n hx hb dX6_put_54 rfl (lv_at hl 5 rfl) ?_
      refine lv_aload hx hb dX6_put_55 (lv_at hl 1 rfl) ?_
      refine zx_getI hx hb hts hiX5 hown hG (shX_sO (zx_lt g_3)) vc_5 1 (by decide) rfl L3 dX6_put_57 ?_
      obtain ⟨r_6, I_6, h_6, hf⟩ := zx_b hf
      refine zx_calli (va_runS (As := [.int x3, .int (I_4 (zsO (x1.toNatClampNeg)) 1)]) (rest := [.int x2, .ref (ad (zsC (x1.toNatClampNeg)))]) ⟨hx, hb, hml, hown, hts⟩ (mX6_cutToLane l D ad cA x3 (I_4 (zsO (x1.toNatClampNeg)) 1) I_4 r_6 I_6 h_6 _) (va_cwS 2 hts gX6_put_X6_cutToLane rfl rfl rfl hd_X6_cutToLane ⟨Nat.le_of_ble_eq_true rfl, Nat.le_of_ble_eq_true rfl⟩) (zx_preS hG) rfl rfl hl.1 rfl (lv_room (Nat.le_of_ble_eq_true rfl)) dX6_put_60 ⟨Nat.le_refl _, Nat.le_refl _⟩) hG (fun H locs hG => ?_)
      obtain ⟨g_7, hf⟩ := zx_in hf
      refine zx_ast hx hb hG (shX_sC (zx_lt g_3)) g_7 dX6_put_63 (fun H locs hG => ?_)
      refine lv_iconst (v := (1 : Int32)) hx hb dX6_put_64 (by decide) ?_
      exact zx_iret hx hb hr hlocks rfl hG hf dX6_put_65
    · have hf := zx_neg c_5 hf
      refine lv_aload_n hx hb dX6_put_41 rfl (lv_at hl 2 rfl) ?_
      refine lv_iload hx hb dX6_put_42 (lv_at hl 0 rfl) ?_
      obtain ⟨r_8, I_8, h_8, hf⟩ := zx_b hf
      refine zx_calli (va_runV (As := [.int r_4]) (rest := []) ⟨hx, hb, hml, hown, hts⟩ (mX6_faulted l D ad cA r_4 I_4 r_8 I_8 h_8 _) (cwV 1 hts gX6_put_X6_faulted rfl rfl rfl hd_X6_faulted ⟨Nat.le_of_ble_eq_true rfl, Nat.le_of_ble_eq_true rfl⟩) (zx_preV hG shX_0 vc_6) rfl rfl hl.1 rfl (lv_room (Nat.le_of_ble_eq_true rfl)) dX6_put_44 ⟨Nat.le_refl _, Nat.le_refl _⟩) hG (fun H locs hG => ?_)
      exact zx_iret hx hb hr hlocks rfl hG hf dX6_put_47
  · have hf := zx_pos c_2 hf
    refine lv_iconst (v := (-1 : Int32)) hx hb dX6_put_12 (by decide) ?_
    exact zx_iret hx hb hr hlocks rfl hG hf dX6_put_13

set_option maxHeartbeats 4000000 in
set_option maxRecDepth 100000 in
theorem mX6_cell (l : Launch) (D : va_G) (ad : Nat → Nat) (cA : Nat → ClassId) (x1 : Int32) (x2 : Int32) (x3 : Int32) (I : zxI) (r : Int64) (J : zxI) (hf : fX6_cell x1 x2 x3 I = some (r, J)) (sz : Nat) : Met l yX6_cell wsX6_cell { frames := 2, cells := 0, slots := 0, locals := 45 } (va_Pc [.ref (ad 0), .int x1, .int x2, .int x3] (zxPre D shX ad cA I sz)) (va_Ql (fun (r2 : Int64) (I2 : zxI) => r2 = r ∧ I2 = J) (zxPost D shX ad cA sz) (zxA shX ad sz)) 0 0 (zxA shX ad sz) := by
  refine zx_start (by decide) rfl (Nat.le_of_ble_eq_true rfl) ?_
  intro p e s m args below meth c ls hx hb hr hts hown hlocks hml hG hl
  have hl : lv_has ls 5 [(0, .ref (ad 0)), (1, .int x1), (2, .int x2), (3, .int x3)] := hl
  have hiX5 : ∀ w ∈ wsX50, w ∈ wsX6_cell := fun w h => List.mem_cons_of_mem _ (List.mem_append_right _ h)
  have hiX6 : ∀ w ∈ wsX60, w ∈ wsX6_cell := fun w h => List.mem_cons_of_mem _ (List.mem_append_left _ (List.mem_append_right _ h))
  have L1 := hts (Cond.fieldLink RX6 67 "GalleryBirds" "lastFault" "I") (List.mem_of_getElem? (i := 1) rfl)
  have L2 := hts (Cond.constantLong RX6 218 (-9223372036854775808)) (List.mem_of_getElem? (i := 2) rfl)
  have L3 := hts (Cond.fieldLink RX6 13 "GalleryBirds" "sheets" "[LGalleryBirds$Sheet;") (List.mem_of_getElem? (i := 3) rfl)
  have L4 := hts (Cond.fieldLink RX6 86 "GalleryBirds$Sheet" "cells" "[I") (List.mem_of_getElem? (i := 4) rfl)
  unfold fX6_cell at hf
  refine lv_aload_n hx hb dX6_cell_0 rfl (lv_at hl 0 rfl) ?_
  refine lv_iconst (v := (0 : Int32)) hx hb dX6_cell_1 (by decide) ?_
  refine zx_putI hx hb hts hiX6 tyX6 tyX6_ok nmX6 hown hG shX_0 vc_6 10 (by decide) rfl L1 rfl (ty := .int) (tyX6_ok 10 (by decide)) rfl rfl dX6_cell_2 (fun H locs hG => ?_)
  refine lv_iload_n hx hb dX6_cell_5 rfl (lv_at hl 1 rfl) ?_
  obtain ⟨r_1, I_1, h_1, hf⟩ := zx_b hf
  refine zx_calli (va_runS (As := [.int x1]) (rest := []) ⟨hx, hb, hml, hown, hts⟩ (mX6_isSheet l D ad cA x1 (zxU I 0 10 (0 : Int32)) r_1 I_1 h_1 _) (va_cwS 1 hts gX6_cell_X6_isSheet rfl rfl rfl hd_X6_isSheet ⟨Nat.le_of_ble_eq_true rfl, Nat.le_of_ble_eq_true rfl⟩) (zx_preS hG) rfl rfl hl.1 rfl (lv_room (Nat.le_of_ble_eq_true rfl)) dX6_cell_6 ⟨Nat.le_refl _, Nat.le_refl _⟩) hG (fun H locs hG => ?_)
  refine lv_if_eq (tgt := 19) hx hb dX6_cell_9 (by decide) (fun c_2 => ?_) (fun c_2 => ?_)
  · have hf := zx_pos c_2 hf
    refine lv_ldc2 (v := (-9223372036854775808 : Int64)) hx hb hown L2 dX6_cell_19 ?_
    exact zx_lret hx hb hr hlocks hG hf dX6_cell_22
  · have hf := zx_neg c_2 hf
    refine lv_iload_n hx hb dX6_cell_12 rfl (lv_at hl 3 rfl) ?_
    obtain ⟨r_3, I_3, h_3, hf⟩ := zx_b hf
    refine zx_calli (va_runS (As := [.int x3]) (rest := []) ⟨hx, hb, hml, hown, hts⟩ (mX6_isLane l D ad cA x3 I_1 r_3 I_3 h_3 _) (va_cwS 1 hts gX6_cell_X6_isLane rfl rfl rfl hd_X6_isLane ⟨Nat.le_of_ble_eq_true rfl, Nat.le_of_ble_eq_true rfl⟩) (zx_preS hG) rfl rfl hl.1 rfl (lv_room (Nat.le_of_ble_eq_true rfl)) dX6_cell_13 ⟨Nat.le_refl _, Nat.le_refl _⟩) hG (fun H locs hG => ?_)
    refine lv_if_ne (tgt := 23) hx hb dX6_cell_16 (by decide) (fun c_4 => ?_) (fun c_4 => ?_)
    · have hf := zx_neg c_4 hf
      refine lv_aload_n hx hb dX6_cell_23 rfl (lv_at hl 0 rfl) ?_
      refine zx_getR (d := 1) hx hb hts hiX6 hown hG shX_0 vc_6 0 (by decide) rfl L3 dX6_cell_24 ?_
      refine lv_iload_n hx hb dX6_cell_27 rfl (lv_at hl 1 rfl) ?_
      obtain ⟨g_5, hf⟩ := zx_in hf
      refine zx_aldR (d := (zsO (x1.toNatClampNeg))) (t := 1) hx hb hG shX_1 rfl g_5 (shX_rs (zx_lt g_5)) dX6_cell_28 ?_
      refine lv_iload_n hx hb dX6_cell_29 rfl (lv_at hl 3 rfl) ?_
      refine lv_iload_n hx hb dX6_cell_30 rfl (lv_at hl 2 rfl) ?_
      refine lv_iconst (v := (1 : Int32)) hx hb dX6_cell_31 (by decide) ?_
      obtain ⟨r_6, I_6, h_6, hf⟩ := zx_b hf
      refine zx_calli (va_runV (As := [.int x3, .int x2, .int (1 : Int32)]) (rest := []) ⟨hx, hb, hml, hown, hts⟩ (mX5_faultOfCells l D ad cA (x1.toNatClampNeg) (zx_lt g_5) x3 x2 (1 : Int32) I_3 r_6 I_6 h_6 _) (cwV 3 hts gX6_cell_X5_faultOfCells rfl rfl rfl hd_X5_faultOfCells ⟨Nat.le_of_ble_eq_true rfl, Nat.le_of_ble_eq_true rfl⟩) (zx_preV hG (shX_sO (zx_lt g_5)) vc_5) rfl rfl hl.1 rfl (lv_room (Nat.le_of_ble_eq_true rfl)) dX6_cell_32 ⟨Nat.le_refl _, Nat.le_refl _⟩) hG (fun H locs hG => ?_)
      refine lv_istore (lv' := [(4, .int r_6), (0, .ref (ad 0)), (1, .int x1), (2, .int x2), (3, .int x3)]) hx hb dX6_cell_35 hl (by decide) rfl (fun ls hl => ?_)
      refine lv_iload hx hb dX6_cell_37 (lv_at hl 0 rfl) ?_
      refine lv_if_eq (tgt := 53) hx hb dX6_cell_39 (by decide) (fun c_7 => ?_) (fun c_7 => ?_)
      · have hf := zx_pos c_7 hf
        refine lv_aload_n hx hb dX6_cell_53 rfl (lv_at hl 1 rfl) ?_
        refine zx_getR (d := 1) hx hb hts hiX6 hown hG shX_0 vc_6 0 (by decide) rfl L3 dX6_cell_54 ?_
        refine lv_iload_n hx hb dX6_cell_57 rfl (lv_at hl 2 rfl) ?_
        refine zx_aldR (d := (zsO (x1.toNatClampNeg))) (t := 1) hx hb hG shX_1 rfl g_5 (shX_rs (zx_lt g_5)) dX6_cell_58 ?_
        refine zx_getR (d := (zsC (x1.toNatClampNeg))) hx hb hts hiX5 hown hG (shX_sO (zx_lt g_5)) vc_5 2 (by decide) rfl L4 dX6_cell_59 ?_
        refine lv_iload_n hx hb dX6_cell_62 rfl (lv_at hl 3 rfl) ?_
        obtain ⟨g_9, hf⟩ := zx_in hf
        refine zx_ald hx hb hG (shX_sC (zx_lt g_5)) g_9 dX6_cell_63 ?_
        refine lv_i2l (v := ((I_6 (zsC (x1.toNatClampNeg)) x2.toNatClampNeg).toInt64)) hx hb dX6_cell_64 rfl ?_
        exact zx_lret hx hb hr hlocks hG hf dX6_cell_65
      · have hf := zx_neg c_7 hf
        refine lv_aload_n hx hb dX6_cell_42 rfl (lv_at hl 1 rfl) ?_
        refine lv_iload hx hb dX6_cell_43 (lv_at hl 0 rfl) ?_
        obtain ⟨r_10, I_10, h_10, hf⟩ := zx_b hf
        refine zx_calli (va_runV (As := [.int r_6]) (rest := []) ⟨hx, hb, hml, hown, hts⟩ (mX6_faulted l D ad cA r_6 I_6 r_10 I_10 h_10 _) (cwV 1 hts gX6_cell_X6_faulted rfl rfl rfl hd_X6_faulted ⟨Nat.le_of_ble_eq_true rfl, Nat.le_of_ble_eq_true rfl⟩) (zx_preV hG shX_0 vc_6) rfl rfl hl.1 rfl (lv_room (Nat.le_of_ble_eq_true rfl)) dX6_cell_45 ⟨Nat.le_refl _, Nat.le_refl _⟩) hG (fun H locs hG => ?_)
        refine lv_pop hx hb dX6_cell_48 rfl ?_
        refine lv_ldc2 (v := (-9223372036854775808 : Int64)) hx hb hown L2 dX6_cell_49 ?_
        exact zx_lret hx hb hr hlocks hG hf dX6_cell_52
    · have hf := zx_pos c_4 hf
      refine lv_ldc2 (v := (-9223372036854775808 : Int64)) hx hb hown L2 dX6_cell_19 ?_
      exact zx_lret hx hb hr hlocks hG hf dX6_cell_22

set_option maxHeartbeats 4000000 in
set_option maxRecDepth 100000 in
theorem mX6_copy (l : Launch) (D : va_G) (ad : Nat → Nat) (cA : Nat → ClassId) (x1 : Int32) (x2 : Int32) (x3 : Int32) (x4 : Int32) (x5 : Int32) (I : zxI) (r : Int32) (J : zxI) (hf : fX6_copy x1 x2 x3 x4 x5 I = some (r, J)) (sz : Nat) : Met l yX6_copy wsX6_copy { frames := 1, cells := 0, slots := 0, locals := 60 } (va_Pc [.ref (ad 0), .int x1, .int x2, .int x3, .int x4, .int x5] (zxPre D shX ad cA I sz)) (va_Qi (fun (r2 : Int32) (I2 : zxI) => r2 = r ∧ I2 = J) (zxPost D shX ad cA sz) (zxA shX ad sz)) 0 0 (zxA shX ad sz) := by
  refine zx_start (by decide) rfl (Nat.le_of_ble_eq_true rfl) ?_
  intro p e s m args below meth c ls hx hb hr hts hown hlocks hml hG hl
  have hl : lv_has ls 8 [(0, .ref (ad 0)), (1, .int x1), (2, .int x2), (3, .int x3), (4, .int x4), (5, .int x5)] := hl
  have hiX5 : ∀ w ∈ wsX50, w ∈ wsX6_copy := fun w h => List.mem_cons_of_mem _ (List.mem_append_right _ h)
  have hiX6 : ∀ w ∈ wsX60, w ∈ wsX6_copy := fun w h => List.mem_cons_of_mem _ (List.mem_append_left _ (List.mem_append_right _ h))
  have L1 := hts (Cond.fieldLink RX6 67 "GalleryBirds" "lastFault" "I") (List.mem_of_getElem? (i := 1) rfl)
  have L2 := hts (Cond.fieldLink RX6 13 "GalleryBirds" "sheets" "[LGalleryBirds$Sheet;") (List.mem_of_getElem? (i := 2) rfl)
  have L3 := hts (Cond.fieldLink RX6 227 "GalleryBirds$Sheet" "has" "Z") (List.mem_of_getElem? (i := 3) rfl)
  have L4 := hts (Cond.fieldLink RX6 231 "GalleryBirds$Sheet" "lane" "I") (List.mem_of_getElem? (i := 4) rfl)
  have L5 := hts (Cond.fieldLink RX6 86 "GalleryBirds$Sheet" "cells" "[I") (List.mem_of_getElem? (i := 5) rfl)
  have L6 := hts (Cond.methodLink RX6 241 arraycopyName) (List.mem_of_getElem? (i := 6) rfl)
  have L7 := hts (Cond.native arraycopyName) (List.mem_of_getElem? (i := 7) rfl)
  have L8 := hts (Cond.static arraycopyName) (List.mem_of_getElem? (i := 8) rfl)
  have L9 := hts (Cond.initialized "java/lang/System") (List.mem_of_getElem? (i := 9) rfl)
  unfold fX6_copy at hf
  refine lv_aload_n hx hb dX6_copy_0 rfl (lv_at hl 0 rfl) ?_
  refine lv_iconst (v := (0 : Int32)) hx hb dX6_copy_1 (by decide) ?_
  refine zx_putI hx hb hts hiX6 tyX6 tyX6_ok nmX6 hown hG shX_0 vc_6 10 (by decide) rfl L1 rfl (ty := .int) (tyX6_ok 10 (by decide)) rfl rfl dX6_copy_2 (fun H locs hG => ?_)
  refine lv_iload_n hx hb dX6_copy_5 rfl (lv_at hl 1 rfl) ?_
  obtain ⟨r_1, I_1, h_1, hf⟩ := zx_b hf
  refine zx_calli (va_runS (As := [.int x1]) (rest := []) ⟨hx, hb, hml, hown, hts⟩ (mX6_isSheet l D ad cA x1 (zxU I 0 10 (0 : Int32)) r_1 I_1 h_1 _) (va_cwS 1 hts gX6_copy_X6_isSheet rfl rfl rfl hd_X6_isSheet ⟨Nat.le_of_ble_eq_true rfl, Nat.le_of_ble_eq_true rfl⟩) (zx_preS hG) rfl rfl hl.1 rfl (lv_room (Nat.le_of_ble_eq_true rfl)) dX6_copy_6 ⟨Nat.le_refl _, Nat.le_refl _⟩) hG (fun H locs hG => ?_)
  refine lv_if_eq (tgt := 19) hx hb dX6_copy_9 (by decide) (fun c_2 => ?_) (fun c_2 => ?_)
  · have hf := zx_pos c_2 hf
    refine lv_iconst (v := (-1 : Int32)) hx hb dX6_copy_19 (by decide) ?_
    exact zx_iret hx hb hr hlocks rfl hG hf dX6_copy_20
  · have hf := zx_neg c_2 hf
    refine lv_iload_n hx hb dX6_copy_12 rfl (lv_at hl 3 rfl) ?_
    obtain ⟨r_3, I_3, h_3, hf⟩ := zx_b hf
    refine zx_calli (va_runS (As := [.int x3]) (rest := []) ⟨hx, hb, hml, hown, hts⟩ (mX6_isSheet l D ad cA x3 I_1 r_3 I_3 h_3 _) (va_cwS 1 hts gX6_copy_X6_isSheet rfl rfl rfl hd_X6_isSheet ⟨Nat.le_of_ble_eq_true rfl, Nat.le_of_ble_eq_true rfl⟩) (zx_preS hG) rfl rfl hl.1 rfl (lv_room (Nat.le_of_ble_eq_true rfl)) dX6_copy_13 ⟨Nat.le_refl _, Nat.le_refl _⟩) hG (fun H locs hG => ?_)
    refine lv_if_ne (tgt := 21) hx hb dX6_copy_16 (by decide) (fun c_4 => ?_) (fun c_4 => ?_)
    · have hf := zx_neg c_4 hf
      refine lv_aload_n hx hb dX6_copy_21 rfl (lv_at hl 0 rfl) ?_
      refine zx_getR (d := 1) hx hb hts hiX6 hown hG shX_0 vc_6 0 (by decide) rfl L2 dX6_copy_22 ?_
      refine lv_iload_n hx hb dX6_copy_25 rfl (lv_at hl 1 rfl) ?_
      obtain ⟨g_5, hf⟩ := zx_in hf
      refine zx_aldR (d := (zsO (x1.toNatClampNeg))) (t := 1) hx hb hG shX_1 rfl g_5 (shX_rs (zx_lt g_5)) dX6_copy_26 ?_
      refine lv_astore (lv' := [(6, .ref (ad (zsO (x1.toNatClampNeg)))), (0, .ref (ad 0)), (1, .int x1), (2, .int x2), (3, .int x3), (4, .int x4), (5, .int x5)]) hx hb dX6_copy_27 hl (by decide) rfl (fun ls hl => ?_)
      refine lv_aload_n hx hb dX6_copy_29 rfl (lv_at hl 1 rfl) ?_
      refine zx_getR (d := 1) hx hb hts hiX6 hown hG shX_0 vc_6 0 (by decide) rfl L2 dX6_copy_30 ?_
      refine lv_iload_n hx hb dX6_copy_33 rfl (lv_at hl 4 rfl) ?_
      obtain ⟨g_6, hf⟩ := zx_in hf
      refine zx_aldR (d := (zsO (x3.toNatClampNeg))) (t := 1) hx hb hG shX_1 rfl g_6 (shX_rs (zx_lt g_6)) dX6_copy_34 ?_
      refine lv_astore (lv' := [(7, .ref (ad (zsO (x3.toNatClampNeg)))), (6, .ref (ad (zsO (x1.toNatClampNeg)))), (0, .ref (ad 0)), (1, .int x1), (2, .int x2), (3, .int x3), (4, .int x4), (5, .int x5)]) hx hb dX6_copy_35 hl (by decide) rfl (fun ls hl => ?_)
      refine lv_aload hx hb dX6_copy_37 (lv_at hl 1 rfl) ?_
      refine zx_getI hx hb hts hiX5 hown hG (shX_sO (zx_lt g_5)) vc_5 0 (by decide) rfl L3 dX6_copy_39 ?_
      refine lv_if_eq (tgt := 53) hx hb dX6_copy_42 (by decide) (fun c_7 => ?_) (fun c_7 => ?_)
      · have hf := zx_pos c_7 hf
        refine lv_aload_n hx hb dX6_copy_53 rfl (lv_at hl 2 rfl) ?_
        refine lv_iconst (v := (1 : Int32)) hx hb dX6_copy_54 (by decide) ?_
        obtain ⟨r_8, I_8, h_8, hf⟩ := zx_b hf
        refine zx_calli (va_runV (As := [.int (1 : Int32)]) (rest := []) ⟨hx, hb, hml, hown, hts⟩ (mX6_faulted l D ad cA (1 : Int32) I_3 r_8 I_8 h_8 _) (cwV 1 hts gX6_copy_X6_faulted rfl rfl rfl hd_X6_faulted ⟨Nat.le_of_ble_eq_true rfl, Nat.le_of_ble_eq_true rfl⟩) (zx_preV hG shX_0 vc_6) rfl rfl hl.1 rfl (lv_room (Nat.le_of_ble_eq_true rfl)) dX6_copy_55 ⟨Nat.le_refl _, Nat.le_refl _⟩) hG (fun H locs hG => ?_)
        exact zx_iret hx hb hr hlocks rfl hG hf dX6_copy_58
      · have hf := zx_neg c_7 hf
        refine lv_aload hx hb dX6_copy_45 (lv_at hl 0 rfl) ?_
        refine zx_getI hx hb hts hiX5 hown hG (shX_sO (zx_lt g_6)) vc_5 0 (by decide) rfl L3 dX6_copy_47 ?_
        refine lv_if_ne (tgt := 59) hx hb dX6_copy_50 (by decide) (fun c_9 => ?_) (fun c_9 => ?_)
        · have hf := zx_neg c_9 hf
          refine lv_aload hx hb dX6_copy_59 (lv_at hl 1 rfl) ?_
          refine zx_getI hx hb hts hiX5 hown hG (shX_sO (zx_lt g_5)) vc_5 1 (by decide) rfl L4 dX6_copy_61 ?_
          refine lv_aload hx hb dX6_copy_64 (lv_at hl 0 rfl) ?_
          refine zx_getI hx hb hts hiX5 hown hG (shX_sO (zx_lt g_6)) vc_5 1 (by decide) rfl L4 dX6_copy_66 ?_
          refine lv_icmp_eq (tgt := 78) hx hb dX6_copy_69 (by decide) (fun c_10 => ?_) (fun c_10 => ?_)
          · have hf := zx_pos c_10 hf
            refine lv_iload hx hb dX6_copy_78 (lv_at hl 7 rfl) ?_
            refine lv_if_lt (tgt := 106) hx hb dX6_copy_80 (by decide) (fun c_11 => ?_) (fun c_11 => ?_)
            · have hf := zx_pos c_11 hf
              refine lv_aload_n hx hb dX6_copy_106 rfl (lv_at hl 2 rfl) ?_
              refine lv_iconst (v := (3 : Int32)) hx hb dX6_copy_107 (by decide) ?_
              obtain ⟨r_12, I_12, h_12, hf⟩ := zx_b hf
              refine zx_calli (va_runV (As := [.int (3 : Int32)]) (rest := []) ⟨hx, hb, hml, hown, hts⟩ (mX6_faulted l D ad cA (3 : Int32) I_3 r_12 I_12 h_12 _) (cwV 1 hts gX6_copy_X6_faulted rfl rfl rfl hd_X6_faulted ⟨Nat.le_of_ble_eq_true rfl, Nat.le_of_ble_eq_true rfl⟩) (zx_preV hG shX_0 vc_6) rfl rfl hl.1 rfl (lv_room (Nat.le_of_ble_eq_true rfl)) dX6_copy_108 ⟨Nat.le_refl _, Nat.le_refl _⟩) hG (fun H locs hG => ?_)
              exact zx_iret hx hb hr hlocks rfl hG hf dX6_copy_111
            · have hf := zx_neg c_11 hf
              refine lv_aload hx hb dX6_copy_83 (lv_at hl 1 rfl) ?_
              refine lv_iload_n hx hb dX6_copy_85 rfl (lv_at hl 4 rfl) ?_
              refine lv_iload hx hb dX6_copy_86 (lv_at hl 7 rfl) ?_
              obtain ⟨r_13, I_13, h_13, hf⟩ := zx_b hf
              refine zx_calli (va_runV (As := [.int x2, .int x5]) (rest := []) ⟨hx, hb, hml, hown, hts⟩ (mX5_hasCells l D ad cA (x1.toNatClampNeg) (zx_lt g_5) x2 x5 I_3 r_13 I_13 h_13 _) (cwV 2 hts gX6_copy_X5_hasCells rfl rfl rfl hd_X5_hasCells ⟨Nat.le_of_ble_eq_true rfl, Nat.le_of_ble_eq_true rfl⟩) (zx_preV hG (shX_sO (zx_lt g_5)) vc_5) rfl rfl hl.1 rfl (lv_room (Nat.le_of_ble_eq_true rfl)) dX6_copy_88 ⟨Nat.le_refl _, Nat.le_refl _⟩) hG (fun H locs hG => ?_)
              refine lv_if_eq (tgt := 106) hx hb dX6_copy_91 (by decide) (fun c_14 => ?_) (fun c_14 => ?_)
              · have hf := zx_pos c_14 hf
                refine lv_aload_n hx hb dX6_copy_106 rfl (lv_at hl 2 rfl) ?_
                refine lv_iconst (v := (3 : Int32)) hx hb dX6_copy_107 (by decide) ?_
                obtain ⟨r_15, I_15, h_15, hf⟩ := zx_b hf
                refine zx_calli (va_runV (As := [.int (3 : Int32)]) (rest := []) ⟨hx, hb, hml, hown, hts⟩ (mX6_faulted l D ad cA (3 : Int32) I_13 r_15 I_15 h_15 _) (cwV 1 hts gX6_copy_X6_faulted rfl rfl rfl hd_X6_faulted ⟨Nat.le_of_ble_eq_true rfl, Nat.le_of_ble_eq_true rfl⟩) (zx_preV hG shX_0 vc_6) rfl rfl hl.1 rfl (lv_room (Nat.le_of_ble_eq_true rfl)) dX6_copy_108 ⟨Nat.le_refl _, Nat.le_refl _⟩) hG (fun H locs hG => ?_)
                exact zx_iret hx hb hr hlocks rfl hG hf dX6_copy_111
              · have hf := zx_neg c_14 hf
                refine lv_aload hx hb dX6_copy_94 (lv_at hl 0 rfl) ?_
                refine lv_iload hx hb dX6_copy_96 (lv_at hl 6 rfl) ?_
                refine lv_iload hx hb dX6_copy_98 (lv_at hl 7 rfl) ?_
                obtain ⟨r_16, I_16, h_16, hf⟩ := zx_b hf
                refine zx_calli (va_runV (As := [.int x4, .int x5]) (rest := []) ⟨hx, hb, hml, hown, hts⟩ (mX5_hasCells l D ad cA (x3.toNatClampNeg) (zx_lt g_6) x4 x5 I_13 r_16 I_16 h_16 _) (cwV 2 hts gX6_copy_X5_hasCells rfl rfl rfl hd_X5_hasCells ⟨Nat.le_of_ble_eq_true rfl, Nat.le_of_ble_eq_true rfl⟩) (zx_preV hG (shX_sO (zx_lt g_6)) vc_5) rfl rfl hl.1 rfl (lv_room (Nat.le_of_ble_eq_true rfl)) dX6_copy_100 ⟨Nat.le_refl _, Nat.le_refl _⟩) hG (fun H locs hG => ?_)
                refine lv_if_ne (tgt := 112) hx hb dX6_copy_103 (by decide) (fun c_17 => ?_) (fun c_17 => ?_)
                · have hf := zx_neg c_17 hf
                  refine lv_aload hx hb dX6_copy_112 (lv_at hl 1 rfl) ?_
                  refine zx_getR (d := (zsC (x1.toNatClampNeg))) hx hb hts hiX5 hown hG (shX_sO (zx_lt g_5)) vc_5 2 (by decide) rfl L5 dX6_copy_114 ?_
                  refine lv_iload_n hx hb dX6_copy_117 rfl (lv_at hl 4 rfl) ?_
                  refine lv_aload hx hb dX6_copy_118 (lv_at hl 0 rfl) ?_
                  refine zx_getR (d := (zsC (x3.toNatClampNeg))) hx hb hts hiX5 hown hG (shX_sO (zx_lt g_6)) vc_5 2 (by decide) rfl L5 dX6_copy_120 ?_
                  refine lv_iload hx hb dX6_copy_123 (lv_at hl 6 rfl) ?_
                  refine lv_iload hx hb dX6_copy_125 (lv_at hl 7 rfl) ?_
                  obtain ⟨⟨g_18, g_19, g_20, g_21, g_22⟩, hf⟩ := zx_gd hf
                  refine zx_copy hx hb (hml.trans hl.1.symm) hown L6 L7 L8 L9 hG (shX_sC (zx_lt g_5)) (shX_sC (zx_lt g_6)) g_18 g_19 g_20 g_21 g_22 (Nat.le_of_ble_eq_true rfl) (Nat.le_of_ble_eq_true rfl) dX6_copy_127 (fun H locs hG => ?_)
                  refine lv_iload hx hb dX6_copy_130 (lv_at hl 7 rfl) ?_
                  exact zx_iret hx hb hr hlocks rfl hG hf dX6_copy_132
                · have hf := zx_pos c_17 hf
                  refine lv_aload_n hx hb dX6_copy_106 rfl (lv_at hl 2 rfl) ?_
                  refine lv_iconst (v := (3 : Int32)) hx hb dX6_copy_107 (by decide) ?_
                  obtain ⟨r_23, I_23, h_23, hf⟩ := zx_b hf
                  refine zx_calli (va_runV (As := [.int (3 : Int32)]) (rest := []) ⟨hx, hb, hml, hown, hts⟩ (mX6_faulted l D ad cA (3 : Int32) I_16 r_23 I_23 h_23 _) (cwV 1 hts gX6_copy_X6_faulted rfl rfl rfl hd_X6_faulted ⟨Nat.le_of_ble_eq_true rfl, Nat.le_of_ble_eq_true rfl⟩) (zx_preV hG shX_0 vc_6) rfl rfl hl.1 rfl (lv_room (Nat.le_of_ble_eq_true rfl)) dX6_copy_108 ⟨Nat.le_refl _, Nat.le_refl _⟩) hG (fun H locs hG => ?_)
                  exact zx_iret hx hb hr hlocks rfl hG hf dX6_copy_111
          · have hf := zx_neg c_10 hf
            refine lv_aload_n hx hb dX6_copy_72 rfl (lv_at hl 2 rfl) ?_
            refine lv_iconst (v := (2 : Int32)) hx hb dX6_copy_73 (by decide) ?_
            obtain ⟨r_24, I_24, h_24, hf⟩ := zx_b hf
            refine zx_calli (va_runV (As := [.int (2 : Int32)]) (rest := []) ⟨hx, hb, hml, hown, hts⟩ (mX6_faulted l D ad cA (2 : Int32) I_3 r_24 I_24 h_24 _) (cwV 1 hts gX6_copy_X6_faulted rfl rfl rfl hd_X6_faulted ⟨Nat.le_of_ble_eq_true rfl, Nat.le_of_ble_eq_true rfl⟩) (zx_preV hG shX_0 vc_6) rfl rfl hl.1 rfl (lv_room (Nat.le_of_ble_eq_true rfl)) dX6_copy_74 ⟨Nat.le_refl _, Nat.le_refl _⟩) hG (fun H locs hG => ?_)
            exact zx_iret hx hb hr hlocks rfl hG hf dX6_copy_77
        · have hf := zx_pos c_9 hf
          refine lv_aload_n hx hb dX6_copy_53 rfl (lv_at hl 2 rfl) ?_
          refine lv_iconst (v := (1 : Int32)) hx hb dX6_copy_54 (by decide) ?_
          obtain ⟨r_25, I_25, h_25, hf⟩ := zx_b hf
          refine zx_calli (va_runV (As := [.int (1 : Int32)]) (rest := []) ⟨hx, hb, hml, hown, hts⟩ (mX6_faulted l D ad cA (1 : Int32) I_3 r_25 I_25 h_25 _) (cwV 1 hts gX6_copy_X6_faulted rfl rfl rfl hd_X6_faulted ⟨Nat.le_of_ble_eq_true rfl, Nat.le_of_ble_eq_true rfl⟩) (zx_preV hG shX_0 vc_6) rfl rfl hl.1 rfl (lv_room (Nat.le_of_ble_eq_true rfl)) dX6_copy_55 ⟨Nat.le_refl _, Nat.le_refl _⟩) hG (fun H locs hG => ?_)
          exact zx_iret hx hb hr hlocks rfl hG hf dX6_copy_58
    · have hf := zx_pos c_4 hf
      refine lv_iconst (v := (-1 : Int32)) hx hb dX6_copy_19 (by decide) ?_
      exact zx_iret hx hb hr hlocks rfl hG hf dX6_copy_20

set_option maxHeartbeats 4000000 in
set_option maxRecDepth 100000 in
theorem mX6_leave (l : Launch) (D : va_G) (ad : Nat → Nat) (cA : Nat → ClassId) (x1 : Int32) (I : zxI) (J : zxI) (hf : fX6_leave x1 I = some J) (sz : Nat) : Met l yX6_leave wsX6_leave { frames := 0, cells := 0, slots := 0, locals := 0 } (va_Pc [.ref (ad 0), .int x1] (zxPre D shX ad cA I sz)) (va_Qv (fun (I2 : zxI) => I2 = J) (zxPost D shX ad cA sz) (zxA shX ad sz)) 0 0 (zxA shX ad sz) := by
  refine zx_start (by decide) rfl (Nat.le_of_ble_eq_true rfl) ?_
  intro p e s m args below meth c ls hx hb hr hts hown hlocks hml hG hl
  have hl : lv_has ls 2 [(0, .ref (ad 0)), (1, .int x1)] := hl
  have hiX6 : ∀ w ∈ wsX60, w ∈ wsX6_leave := fun w h => List.mem_cons_of_mem _ (List.mem_append_right _ h)
  have L1 := hts (Cond.fieldLink RX6 64 "GalleryBirds" "trail" "I") (List.mem_of_getElem? (i := 1) rfl)
  unfold fX6_leave at hf
  refine lv_aload_n hx hb dX6_leave_0 rfl (lv_at hl 0 rfl) ?_
  refine lv_bipush (v := (31 : Int32)) hx hb dX6_leave_1 (by decide) ?_
  refine lv_aload_n hx hb dX6_leave_3 rfl (lv_at hl 0 rfl) ?_
  refine zx_getI hx hb hts hiX6 hown hG shX_0 vc_6 9 (by decide) rfl L1 dX6_leave_4 ?_
  refine lv_imul hx hb dX6_leave_7 ?_
  refine lv_iload_n hx hb dX6_leave_8 rfl (lv_at hl 1 rfl) ?_
  refine lv_iadd hx hb dX6_leave_9 ?_
  refine zx_putI hx hb hts hiX6 tyX6 tyX6_ok nmX6 hown hG shX_0 vc_6 9 (by decide) rfl L1 rfl (ty := .int) (tyX6_ok 9 (by decide)) rfl rfl dX6_leave_10 (fun H locs hG => ?_)
  exact zx_vret hx hb hr hlocks hG hf dX6_leave_13

set_option maxHeartbeats 4000000 in
set_option maxRecDepth 100000 in
theorem mX6_greyBody (l : Launch) (D : va_G) (ad : Nat → Nat) (cA : Nat → ClassId) (x1 : Int32) (I : zxI) (r : Int32) (J : zxI) (hf : fX6_greyBody x1 I = some (r, J)) (sz : Nat) : Met l yX6_greyBody wsX6_greyBody { frames := 1, cells := 0, slots := 0, locals := 21 } (va_Pc [.ref (ad 0), .int x1] (zxPre D shX ad cA I sz)) (va_Qi (fun (r2 : Int32) (I2 : zxI) => r2 = r ∧ I2 = J) (zxPost D shX ad cA sz) (zxA shX ad sz)) 0 0 (zxA shX ad sz) := by
  refine zx_start (by decide) rfl (Nat.le_of_ble_eq_true rfl) ?_
  intro p e s m args below meth c ls hx hb hr hts hown hlocks hml hG hl
  have hl : lv_has ls 2 [(0, .ref (ad 0)), (1, .int x1)] := hl
  have hiX2 : ∀ w ∈ wsX20, w ∈ wsX6_greyBody := fun w h => List.mem_cons_of_mem _ (List.mem_append_right _ h)
  have hiX6 : ∀ w ∈ wsX60, w ∈ wsX6_greyBody := fun w h => List.mem_cons_of_mem _ (List.mem_append_left _ (List.mem_append_right _ h))
  have L1 := hts (Cond.fieldLink RX6 20 "GalleryBirds" "pit" "LGalleryBirds$Pit;") (List.mem_of_getElem? (i := 1) rfl)
  have L2 := hts (Cond.fieldLink RX6 109 "GalleryBirds$Pit" "strengths" "[I") (List.mem_of_getElem? (i := 2) rfl)
  unfold fX6_greyBody at hf
  refine lv_aload_n hx hb dX6_greyBody_0 rfl (lv_at hl 0 rfl) ?_
  refine lv_iconst (v := (1 : Int32)) hx hb dX6_greyBody_1 (by decide) ?_
  obtain ⟨I_1, h_1, hf⟩ := zx_v hf
  refine zx_callv (va_runV (As := [.int (1 : Int32)]) (rest := []) ⟨hx, hb, hml, hown, hts⟩ (mX6_leave l D ad cA (1 : Int32) I I_1 h_1 _) (cwV 1 hts gX6_greyBody_X6_leave rfl rfl rfl hd_X6_leave ⟨Nat.le_of_ble_eq_true rfl, Nat.le_of_ble_eq_true rfl⟩) (zx_preV hG shX_0 vc_6) rfl rfl hl.1 rfl (lv_room (Nat.le_of_ble_eq_true rfl)) dX6_greyBody_2 ⟨Nat.le_refl _, Nat.le_refl _⟩) hG (fun H locs hG => ?_)
  refine lv_aload_n hx hb dX6_greyBody_5 rfl (lv_at hl 0 rfl) ?_
  refine zx_getR (d := 10) hx hb hts hiX6 hown hG shX_0 vc_6 1 (by decide) rfl L1 dX6_greyBody_6 ?_
  refine zx_getR (d := 13) hx hb hts hiX2 hown hG shX_10 vc_2 4 (by decide) rfl L2 dX6_greyBody_9 ?_
  refine lv_iload_n hx hb dX6_greyBody_12 rfl (lv_at hl 1 rfl) ?_
  obtain ⟨g_2, hf⟩ := zx_in hf
  refine zx_ald hx hb hG shX_13 g_2 dX6_greyBody_13 ?_
  exact zx_iret hx hb hr hlocks rfl hG hf dX6_greyBody_14

set_option maxHeartbeats 4000000 in
set_option maxRecDepth 100000 in
theorem mX6_greenBody (l : Launch) (D : va_G) (ad : Nat → Nat) (cA : Nat → ClassId) (x1 : Int32) (I : zxI) (r : Int32) (J : zxI) (hf : fX6_greenBody x1 I = some (r, J)) (sz : Nat) : Met l yX6_greenBody wsX6_greenBody { frames := 2, cells := 0, slots := 0, locals := 42 } (va_Pc [.ref (ad 0), .int x1] (zxPre D shX ad cA I sz)) (va_Qi (fun (r2 : Int32) (I2 : zxI) => r2 = r ∧ I2 = J) (zxPost D shX ad cA sz) (zxA shX ad sz)) 0 0 (zxA shX ad sz) := by
  refine zx_start (by decide) rfl (Nat.le_of_ble_eq_true rfl) ?_
  intro p e s m args below meth c ls hx hb hr hts hown hlocks hml hG hl
  have hl : lv_has ls 2 [(0, .ref (ad 0)), (1, .int x1)] := hl
  unfold fX6_greenBody at hf
  refine lv_aload_n hx hb dX6_greenBody_0 rfl (lv_at hl 0 rfl) ?_
  refine lv_iconst (v := (2 : Int32)) hx hb dX6_greenBody_1 (by decide) ?_
  obtain ⟨I_1, h_1, hf⟩ := zx_v hf
  refine zx_callv (va_runV (As := [.int (2 : Int32)]) (rest := []) ⟨hx, hb, hml, hown, hts⟩ (mX6_leave l D ad cA (2 : Int32) I I_1 h_1 _) (cwV 1 hts gX6_greenBody_X6_leave rfl rfl rfl hd_X6_leave ⟨Nat.le_of_ble_eq_true rfl, Nat.le_of_ble_eq_true rfl⟩) (zx_preV hG shX_0 vc_6) rfl rfl hl.1 rfl (lv_room (Nat.le_of_ble_eq_true rfl)) dX6_greenBody_2 ⟨Nat.le_refl _, Nat.le_refl _⟩) hG (fun H locs hG => ?_)
  refine lv_aload_n hx hb dX6_greenBody_5 rfl (lv_at hl 0 rfl) ?_
  refine lv_iload_n hx hb dX6_greenBody_6 rfl (lv_at hl 1 rfl) ?_
  obtain ⟨r_2, I_2, h_2, hf⟩ := zx_b hf
  refine zx_calli (va_runV (As := [.int x1]) (rest := []) ⟨hx, hb, hml, hown, hts⟩ (mX6_greyBody l D ad cA x1 I_1 r_2 I_2 h_2 _) (cwV 1 hts gX6_greenBody_X6_greyBody rfl rfl rfl hd_X6_greyBody ⟨Nat.le_of_ble_eq_true rfl, Nat.le_of_ble_eq_true rfl⟩) (zx_preV hG shX_0 vc_6) rfl rfl hl.1 rfl (lv_room (Nat.le_of_ble_eq_true rfl)) dX6_greenBody_7 ⟨Nat.le_refl _, Nat.le_refl _⟩) hG (fun H locs hG => ?_)
  refine lv_bipush (v := (100 : Int32)) hx hb dX6_greenBody_10 (by decide) ?_
  refine lv_iadd hx hb dX6_greenBody_12 ?_
  exact zx_iret hx hb hr hlocks rfl hG hf dX6_greenBody_13

set_option maxHeartbeats 4000000 in
set_option maxRecDepth 100000 in
theorem mX6_brightBody (l : Launch) (D : va_G) (ad : Nat → Nat) (cA : Nat → ClassId) (x1 : Int32) (I : zxI) (r : Int32) (J : zxI) (hf : fX6_brightBody x1 I = some (r, J)) (sz : Nat) : Met l yX6_brightBody wsX6_brightBody { frames := 3, cells := 0, slots := 0, locals := 63 } (va_Pc [.ref (ad 0), .int x1] (zxPre D shX ad cA I sz)) (va_Qi (fun (r2 : Int32) (I2 : zxI) => r2 = r ∧ I2 = J) (zxPost D shX ad cA sz) (zxA shX ad sz)) 0 0 (zxA shX ad sz) := by
  refine zx_start (by decide) rfl (Nat.le_of_ble_eq_true rfl) ?_
  intro p e s m args below meth c ls hx hb hr hts hown hlocks hml hG hl
  have hl : lv_has ls 2 [(0, .ref (ad 0)), (1, .int x1)] := hl
  unfold fX6_brightBody at hf
  refine lv_aload_n hx hb dX6_brightBody_0 rfl (lv_at hl 0 rfl) ?_
  refine lv_iconst (v := (3 : Int32)) hx hb dX6_brightBody_1 (by decide) ?_
  obtain ⟨I_1, h_1, hf⟩ := zx_v hf
  refine zx_callv (va_runV (As := [.int (3 : Int32)]) (rest := []) ⟨hx, hb, hml, hown, hts⟩ (mX6_leave l D ad cA (3 : Int32) I I_1 h_1 _) (cwV 1 hts gX6_brightBody_X6_leave rfl rfl rfl hd_X6_leave ⟨Nat.le_of_ble_eq_true rfl, Nat.le_of_ble_eq_true rfl⟩) (zx_preV hG shX_0 vc_6) rfl rfl hl.1 rfl (lv_room (Nat.le_of_ble_eq_true rfl)) dX6_brightBody_2 ⟨Nat.le_refl _, Nat.le_refl _⟩) hG (fun H locs hG => ?_)
  refine lv_aload_n hx hb dX6_brightBody_5 rfl (lv_at hl 0 rfl) ?_
  refine lv_iload_n hx hb dX6_brightBody_6 rfl (lv_at hl 1 rfl) ?_
  obtain ⟨r_2, I_2, h_2, hf⟩ := zx_b hf
  refine zx_calli (va_runV (As := [.int x1]) (rest := []) ⟨hx, hb, hml, hown, hts⟩ (mX6_greenBody l D ad cA x1 I_1 r_2 I_2 h_2 _) (cwV 1 hts gX6_brightBody_X6_greenBody rfl rfl rfl hd_X6_greenBody ⟨Nat.le_of_ble_eq_true rfl, Nat.le_of_ble_eq_true rfl⟩) (zx_preV hG shX_0 vc_6) rfl rfl hl.1 rfl (lv_room (Nat.le_of_ble_eq_true rfl)) dX6_brightBody_7 ⟨Nat.le_refl _, Nat.le_refl _⟩) hG (fun H locs hG => ?_)
  refine lv_aload_n hx hb dX6_brightBody_10 rfl (lv_at hl 0 rfl) ?_
  refine lv_iload_n hx hb dX6_brightBody_11 rfl (lv_at hl 1 rfl) ?_
  obtain ⟨r_3, I_3, h_3, hf⟩ := zx_b hf
  refine zx_calli (va_runV (As := [.int x1]) (rest := [.int r_2]) ⟨hx, hb, hml, hown, hts⟩ (mX6_greyBody l D ad cA x1 I_2 r_3 I_3 h_3 _) (cwV 1 hts gX6_brightBody_X6_greyBody rfl rfl rfl hd_X6_greyBody ⟨Nat.le_of_ble_eq_true rfl, Nat.le_of_ble_eq_true rfl⟩) (zx_preV hG shX_0 vc_6) rfl rfl hl.1 rfl (lv_room (Nat.le_of_ble_eq_true rfl)) dX6_brightBody_12 ⟨Nat.le_refl _, Nat.le_refl _⟩) hG (fun H locs hG => ?_)
  refine lv_iadd hx hb dX6_brightBody_15 ?_
  exact zx_iret hx hb hr hlocks rfl hG hf dX6_brightBody_16

set_option maxHeartbeats 4000000 in
set_option maxRecDepth 100000 in
theorem mX6_tell (l : Launch) (D : va_G) (ad : Nat → Nat) (cA : Nat → ClassId) (x1 : Int32) (I : zxI) (r : Int32) (J : zxI) (hf : fX6_tell x1 I = some (r, J)) (sz : Nat) : Met l yX6_tell wsX6_tell { frames := 4, cells := 0, slots := 0, locals := 84 } (va_Pc [.ref (ad 0), .int x1] (zxPre D shX ad cA I sz)) (va_Qi (fun (r2 : Int32) (I2 : zxI) => r2 = r ∧ I2 = J) (zxPost D shX ad cA sz) (zxA shX ad sz)) 0 0 (zxA shX ad sz) := by
  refine zx_start (by decide) rfl (Nat.le_of_ble_eq_true rfl) ?_
  intro p e s m args below meth c ls hx hb hr hts hown hlocks hml hG hl
  have hl : lv_has ls 2 [(0, .ref (ad 0)), (1, .int x1)] := hl
  have hiX2 : ∀ w ∈ wsX20, w ∈ wsX6_tell := fun w h => List.mem_cons_of_mem _ (List.mem_append_right _ h)
  have hiX6 : ∀ w ∈ wsX60, w ∈ wsX6_tell := fun w h => List.mem_cons_of_mem _ (List.mem_append_left _ (List.mem_append_right _ h))
  have L1 := hts (Cond.fieldLink RX6 20 "GalleryBirds" "pit" "LGalleryBirds$Pit;") (List.mem_of_getElem? (i := 1) rfl)
  have L2 := hts (Cond.fieldLink RX6 103 "GalleryBirds$Pit" "kinds" "[I") (List.mem_of_getElem? (i := 2) rfl)
  unfold fX6_tell at hf
  refine lv_aload_n hx hb dX6_tell_0 rfl (lv_at hl 0 rfl) ?_
  refine lv_iload_n hx hb dX6_tell_1 rfl (lv_at hl 1 rfl) ?_
  obtain ⟨r_1, I_1, h_1, hf⟩ := zx_b hf
  refine zx_calli (va_runV (As := [.int x1]) (rest := []) ⟨hx, hb, hml, hown, hts⟩ (mX6_isGallery l D ad cA x1 I r_1 I_1 h_1 _) (cwV 1 hts gX6_tell_X6_isGallery rfl rfl rfl hd_X6_isGallery ⟨Nat.le_of_ble_eq_true rfl, Nat.le_of_ble_eq_true rfl⟩) (zx_preV hG shX_0 vc_6) rfl rfl hl.1 rfl (lv_room (Nat.le_of_ble_eq_true rfl)) dX6_tell_2 ⟨Nat.le_refl _, Nat.le_refl _⟩) hG (fun H locs hG => ?_)
  refine lv_if_ne (tgt := 10) hx hb dX6_tell_5 (by decide) (fun c_2 => ?_) (fun c_2 => ?_)
  · have hf := zx_neg c_2 hf
    refine lv_aload_n hx hb dX6_tell_10 rfl (lv_at hl 0 rfl) ?_
    refine zx_getR (d := 10) hx hb hts hiX6 hown hG shX_0 vc_6 1 (by decide) rfl L1 dX6_tell_11 ?_
    refine zx_getR (d := 12) hx hb hts hiX2 hown hG shX_10 vc_2 3 (by decide) rfl L2 dX6_tell_14 ?_
    refine lv_iload_n hx hb dX6_tell_17 rfl (lv_at hl 1 rfl) ?_
    obtain ⟨g_3, hf⟩ := zx_in hf
    refine zx_ald hx hb hG shX_12 g_3 dX6_tell_18 ?_
    by_cases c_4 : (I_1 12 x1.toNatClampNeg) = (1 : Int32)
    · have hf := zx_pos c_4 hf
      refine lv_lookup (off := 31) (tgt := 50) hx hb dX6_tell_19 (by decide) (by rw [c_4]; decide) (by decide) ?_
      refine lv_aload_n hx hb dX6_tell_50 rfl (lv_at hl 0 rfl) ?_
      refine lv_iload_n hx hb dX6_tell_51 rfl (lv_at hl 1 rfl) ?_
      obtain ⟨r_6, I_6, h_6, hf⟩ := zx_b hf
      refine zx_calli (va_runV (As := [.int x1]) (rest := []) ⟨hx, hb, hml, hown, hts⟩ (mX6_greenBody l D ad cA x1 I_1 r_6 I_6 h_6 _) (cwV 1 hts gX6_tell_X6_greenBody rfl rfl rfl hd_X6_greenBody ⟨Nat.le_of_ble_eq_true rfl, Nat.le_of_ble_eq_true rfl⟩) (zx_preV hG shX_0 vc_6) rfl rfl hl.1 rfl (lv_room (Nat.le_of_ble_eq_true rfl)) dX6_tell_52 ⟨Nat.le_refl _, Nat.le_refl _⟩) hG (fun H locs hG => ?_)
      exact zx_iret hx hb hr hlocks rfl hG hf dX6_tell_55
    have hf := zx_neg c_4 hf
    by_cases c_5 : (I_1 12 x1.toNatClampNeg) = (2 : Int32)
    · have hf := zx_pos c_5 hf
      refine lv_lookup (off := 25) (tgt := 44) hx hb dX6_tell_19 (by decide) (by rw [c_5]; decide) (by decide) ?_
      refine lv_aload_n hx hb dX6_tell_44 rfl (lv_at hl 0 rfl) ?_
      refine lv_iload_n hx hb dX6_tell_45 rfl (lv_at hl 1 rfl) ?_
      obtain ⟨r_7, I_7, h_7, hf⟩ := zx_b hf
      refine zx_calli (va_runV (As := [.int x1]) (rest := []) ⟨hx, hb, hml, hown, hts⟩ (mX6_brightBody l D ad cA x1 I_1 r_7 I_7 h_7 _) (cwV 1 hts gX6_tell_X6_brightBody rfl rfl rfl hd_X6_brightBody ⟨Nat.le_of_ble_eq_true rfl, Nat.le_of_ble_eq_true rfl⟩) (zx_preV hG shX_0 vc_6) rfl rfl hl.1 rfl (lv_room (Nat.le_of_ble_eq_true rfl)) dX6_tell_46 ⟨Nat.le_refl _, Nat.le_refl _⟩) hG (fun H locs hG => ?_)
      exact zx_iret hx hb hr hlocks rfl hG hf dX6_tell_49
    have hf := zx_neg c_5 hf
    refine lv_lookup (off := 37) (tgt := 56) hx hb dX6_tell_19 (by decide) (zx_lk1 (zx_neI (by decide) c_4) (zx_lk1 (zx_neI (by decide) c_5) (zx_lk0))) (by decide) ?_
    refine lv_aload_n hx hb dX6_tell_56 rfl (lv_at hl 0 rfl) ?_
    refine lv_iload_n hx hb dX6_tell_57 rfl (lv_at hl 1 rfl) ?_
    obtain ⟨r_8, I_8, h_8, hf⟩ := zx_b hf
    refine zx_calli (va_runV (As := [.int x1]) (rest := []) ⟨hx, hb, hml, hown, hts⟩ (mX6_greyBody l D ad cA x1 I_1 r_8 I_8 h_8 _) (cwV 1 hts gX6_tell_X6_greyBody rfl rfl rfl hd_X6_greyBody ⟨Nat.le_of_ble_eq_true rfl, Nat.le_of_ble_eq_true rfl⟩) (zx_preV hG shX_0 vc_6) rfl rfl hl.1 rfl (lv_room (Nat.le_of_ble_eq_true rfl)) dX6_tell_58 ⟨Nat.le_refl _, Nat.le_refl _⟩) hG (fun H locs hG => ?_)
    exact zx_iret hx hb hr hlocks rfl hG hf dX6_tell_61
  · have hf := zx_pos c_2 hf
    refine lv_iconst (v := (-1 : Int32)) hx hb dX6_tell_8 (by decide) ?_
    exact zx_iret hx hb hr hlocks rfl hG hf dX6_tell_9

set_option maxHeartbeats 4000000 in
set_option maxRecDepth 100000 in
theorem mX6_brightSignature (l : Launch) (D : va_G) (ad : Nat → Nat) (cA : Nat → ClassId) (I : zxI) (r : Int32) (J : zxI) (hf : fX6_brightSignature I = some (r, J)) (sz : Nat) : Met l yX6_brightSignature wsX6_brightSignature { frames := 1, cells := 0, slots := 0, locals := 21 } (va_Pc [.ref (ad 0)] (zxPre D shX ad cA I sz)) (va_Qi (fun (r2 : Int32) (I2 : zxI) => r2 = r ∧ I2 = J) (zxPost D shX ad cA sz) (zxA shX ad sz)) 0 0 (zxA shX ad sz) := by
  refine zx_start (by decide) rfl (Nat.le_of_ble_eq_true rfl) ?_
  intro p e s m args below meth c ls hx hb hr hts hown hlocks hml hG hl
  have hl : lv_has ls 1 [(0, .ref (ad 0))] := hl
  unfold fX6_brightSignature at hf
  refine lv_aload_n hx hb dX6_brightSignature_0 rfl (lv_at hl 0 rfl) ?_
  refine lv_iconst (v := (5 : Int32)) hx hb dX6_brightSignature_1 (by decide) ?_
  obtain ⟨I_1, h_1, hf⟩ := zx_v hf
  refine zx_callv (va_runV (As := [.int (5 : Int32)]) (rest := []) ⟨hx, hb, hml, hown, hts⟩ (mX6_leave l D ad cA (5 : Int32) I I_1 h_1 _) (cwV 1 hts gX6_brightSignature_X6_leave rfl rfl rfl hd_X6_leave ⟨Nat.le_of_ble_eq_true rfl, Nat.le_of_ble_eq_true rfl⟩) (zx_preV hG shX_0 vc_6) rfl rfl hl.1 rfl (lv_room (Nat.le_of_ble_eq_true rfl)) dX6_brightSignature_2 ⟨Nat.le_refl _, Nat.le_refl _⟩) hG (fun H locs hG => ?_)
  refine lv_bipush (v := (50 : Int32)) hx hb dX6_brightSignature_5 (by decide) ?_
  exact zx_iret hx hb hr hlocks rfl hG hf dX6_brightSignature_7

set_option maxHeartbeats 4000000 in
set_option maxRecDepth 100000 in
theorem mX6_lentSignature (l : Launch) (D : va_G) (ad : Nat → Nat) (cA : Nat → ClassId) (x1 : Int32) (I : zxI) (r : Int32) (J : zxI) (hf : fX6_lentSignature x1 I = some (r, J)) (sz : Nat) : Met l yX6_lentSignature wsX6_lentSignature { frames := 1, cells := 0, slots := 0, locals := 21 } (va_Pc [.ref (ad 0), .int x1] (zxPre D shX ad cA I sz)) (va_Qi (fun (r2 : Int32) (I2 : zxI) => r2 = r ∧ I2 = J) (zxPost D shX ad cA sz) (zxA shX ad sz)) 0 0 (zxA shX ad sz) := by
  refine zx_start (by decide) rfl (Nat.le_of_ble_eq_true rfl) ?_
  intro p e s m args below meth c ls hx hb hr hts hown hlocks hml hG hl
  have hl : lv_has ls 2 [(0, .ref (ad 0)), (1, .int x1)] := hl
  unfold fX6_lentSignature at hf
  refine lv_aload_n hx hb dX6_lentSignature_0 rfl (lv_at hl 0 rfl) ?_
  refine lv_iconst (v := (4 : Int32)) hx hb dX6_lentSignature_1 (by decide) ?_
  obtain ⟨I_1, h_1, hf⟩ := zx_v hf
  refine zx_callv (va_runV (As := [.int (4 : Int32)]) (rest := []) ⟨hx, hb, hml, hown, hts⟩ (mX6_leave l D ad cA (4 : Int32) I I_1 h_1 _) (cwV 1 hts gX6_lentSignature_X6_leave rfl rfl rfl hd_X6_leave ⟨Nat.le_of_ble_eq_true rfl, Nat.le_of_ble_eq_true rfl⟩) (zx_preV hG shX_0 vc_6) rfl rfl hl.1 rfl (lv_room (Nat.le_of_ble_eq_true rfl)) dX6_lentSignature_2 ⟨Nat.le_refl _, Nat.le_refl _⟩) hG (fun H locs hG => ?_)
  refine lv_iload_n hx hb dX6_lentSignature_5 rfl (lv_at hl 1 rfl) ?_
  exact zx_iret hx hb hr hlocks rfl hG hf dX6_lentSignature_6

set_option maxHeartbeats 4000000 in
set_option maxRecDepth 100000 in
theorem mX6_sign (l : Launch) (D : va_G) (ad : Nat → Nat) (cA : Nat → ClassId) (x1 : Int32) (I : zxI) (r : Int32) (J : zxI) (hf : fX6_sign x1 I = some (r, J)) (sz : Nat) : Met l yX6_sign wsX6_sign { frames := 2, cells := 0, slots := 0, locals := 42 } (va_Pc [.ref (ad 0), .int x1] (zxPre D shX ad cA I sz)) (va_Qi (fun (r2 : Int32) (I2 : zxI) => r2 = r ∧ I2 = J) (zxPost D shX ad cA sz) (zxA shX ad sz)) 0 0 (zxA shX ad sz) := by
  refine zx_start (by decide) rfl (Nat.le_of_ble_eq_true rfl) ?_
  intro p e s m args below meth c ls hx hb hr hts hown hlocks hml hG hl
  have hl : lv_has ls 2 [(0, .ref (ad 0)), (1, .int x1)] := hl
  have hiX2 : ∀ w ∈ wsX20, w ∈ wsX6_sign := fun w h => List.mem_cons_of_mem _ (List.mem_append_right _ h)
  have hiX6 : ∀ w ∈ wsX60, w ∈ wsX6_sign := fun w h => List.mem_cons_of_mem _ (List.mem_append_left _ (List.mem_append_right _ h))
  have L1 := hts (Cond.fieldLink RX6 20 "GalleryBirds" "pit" "LGalleryBirds$Pit;") (List.mem_of_getElem? (i := 1) rfl)
  have L2 := hts (Cond.fieldLink RX6 103 "GalleryBirds$Pit" "kinds" "[I") (List.mem_of_getElem? (i := 2) rfl)
  unfold fX6_sign at hf
  refine lv_aload_n hx hb dX6_sign_0 rfl (lv_at hl 0 rfl) ?_
  refine lv_iload_n hx hb dX6_sign_1 rfl (lv_at hl 1 rfl) ?_
  obtain ⟨r_1, I_1, h_1, hf⟩ := zx_b hf
  refine zx_calli (va_runV (As := [.int x1]) (rest := []) ⟨hx, hb, hml, hown, hts⟩ (mX6_isGallery l D ad cA x1 I r_1 I_1 h_1 _) (cwV 1 hts gX6_sign_X6_isGallery rfl rfl rfl hd_X6_isGallery ⟨Nat.le_of_ble_eq_true rfl, Nat.le_of_ble_eq_true rfl⟩) (zx_preV hG shX_0 vc_6) rfl rfl hl.1 rfl (lv_room (Nat.le_of_ble_eq_true rfl)) dX6_sign_2 ⟨Nat.le_refl _, Nat.le_refl _⟩) hG (fun H locs hG => ?_)
  refine lv_if_ne (tgt := 10) hx hb dX6_sign_5 (by decide) (fun c_2 => ?_) (fun c_2 => ?_)
  · have hf := zx_neg c_2 hf
    refine lv_aload_n hx hb dX6_sign_10 rfl (lv_at hl 0 rfl) ?_
    refine zx_getR (d := 10) hx hb hts hiX6 hown hG shX_0 vc_6 1 (by decide) rfl L1 dX6_sign_11 ?_
    refine zx_getR (d := 12) hx hb hts hiX2 hown hG shX_10 vc_2 3 (by decide) rfl L2 dX6_sign_14 ?_
    refine lv_iload_n hx hb dX6_sign_17 rfl (lv_at hl 1 rfl) ?_
    obtain ⟨g_3, hf⟩ := zx_in hf
    refine zx_ald hx hb hG shX_12 g_3 dX6_sign_18 ?_
    refine lv_iconst (v := (2 : Int32)) hx hb dX6_sign_19 (by decide) ?_
    refine lv_icmp_ne (tgt := 30) hx hb dX6_sign_20 (by decide) (fun c_4 => ?_) (fun c_4 => ?_)
    · have hf := zx_neg c_4 hf
      refine lv_aload_n hx hb dX6_sign_30 rfl (lv_at hl 0 rfl) ?_
      refine lv_iload_n hx hb dX6_sign_31 rfl (lv_at hl 1 rfl) ?_
      obtain ⟨r_5, I_5, h_5, hf⟩ := zx_b hf
      refine zx_calli (va_runV (As := [.int x1]) (rest := []) ⟨hx, hb, hml, hown, hts⟩ (mX6_lentSignature l D ad cA x1 I_1 r_5 I_5 h_5 _) (cwV 1 hts gX6_sign_X6_lentSignature rfl rfl rfl hd_X6_lentSignature ⟨Nat.le_of_ble_eq_true rfl, Nat.le_of_ble_eq_true rfl⟩) (zx_preV hG shX_0 vc_6) rfl rfl hl.1 rfl (lv_room (Nat.le_of_ble_eq_true rfl)) dX6_sign_32 ⟨Nat.le_refl _, Nat.le_refl _⟩) hG (fun H locs hG => ?_)
      exact zx_iret hx hb hr hlocks rfl hG hf dX6_sign_35
    · have hf := zx_pos c_4 hf
      refine lv_aload_n hx hb dX6_sign_23 rfl (lv_at hl 0 rfl) ?_
      obtain ⟨r_6, I_6, h_6, hf⟩ := zx_b hf
      refine zx_calli (va_runV (As := []) (rest := []) ⟨hx, hb, hml, hown, hts⟩ (mX6_brightSignature l D ad cA I_1 r_6 I_6 h_6 _) (cwV 0 hts gX6_sign_X6_brightSignature rfl rfl rfl hd_X6_brightSignature ⟨Nat.le_of_ble_eq_true rfl, Nat.le_of_ble_eq_true rfl⟩) (zx_preV hG shX_0 vc_6) rfl rfl hl.1 rfl (lv_room (Nat.le_of_ble_eq_true rfl)) dX6_sign_24 ⟨Nat.le_refl _, Nat.le_refl _⟩) hG (fun H locs hG => ?_)
      refine lv_goto (tgt := 35) hx hb dX6_sign_27 (by decide) ?_
      exact zx_iret hx hb hr hlocks rfl hG hf dX6_sign_35
  · have hf := zx_pos c_2 hf
    refine lv_iconst (v := (-1 : Int32)) hx hb dX6_sign_8 (by decide) ?_
    exact zx_iret hx hb hr hlocks rfl hG hf dX6_sign_9

set_option maxHeartbeats 4000000 in
set_option maxRecDepth 100000 in
theorem mX6_as (l : Launch) (D : va_G) (ad : Nat → Nat) (cA : Nat → ClassId) (x1 : Int32) (x2 : Int32) (I : zxI) (r : Int32) (J : zxI) (hf : fX6_as x1 x2 I = some (r, J)) (sz : Nat) : Met l yX6_as wsX6_as { frames := 1, cells := 0, slots := 0, locals := 21 } (va_Pc [.ref (ad 0), .int x1, .int x2] (zxPre D shX ad cA I sz)) (va_Qi (fun (r2 : Int32) (I2 : zxI) => r2 = r ∧ I2 = J) (zxPost D shX ad cA sz) (zxA shX ad sz)) 0 0 (zxA shX ad sz) := by
  refine zx_start (by decide) rfl (Nat.le_of_ble_eq_true rfl) ?_
  intro p e s m args below meth c ls hx hb hr hts hown hlocks hml hG hl
  have hl : lv_has ls 3 [(0, .ref (ad 0)), (1, .int x1), (2, .int x2)] := hl
  have hiX2 : ∀ w ∈ wsX20, w ∈ wsX6_as := fun w h => List.mem_cons_of_mem _ (List.mem_append_right _ h)
  have hiX6 : ∀ w ∈ wsX60, w ∈ wsX6_as := fun w h => List.mem_cons_of_mem _ (List.mem_append_left _ (List.mem_append_right _ h))
  have L1 := hts (Cond.fieldLink RX6 67 "GalleryBirds" "lastFault" "I") (List.mem_of_getElem? (i := 1) rfl)
  have L2 := hts (Cond.fieldLink RX6 20 "GalleryBirds" "pit" "LGalleryBirds$Pit;") (List.mem_of_getElem? (i := 2) rfl)
  have L3 := hts (Cond.fieldLink RX6 103 "GalleryBirds$Pit" "kinds" "[I") (List.mem_of_getElem? (i := 3) rfl)
  unfold fX6_as at hf
  refine lv_aload_n hx hb dX6_as_0 rfl (lv_at hl 0 rfl) ?_
  refine lv_iconst (v := (0 : Int32)) hx hb dX6_as_1 (by decide) ?_
  refine zx_putI hx hb hts hiX6 tyX6 tyX6_ok nmX6 hown hG shX_0 vc_6 10 (by decide) rfl L1 rfl (ty := .int) (tyX6_ok 10 (by decide)) rfl rfl dX6_as_2 (fun H locs hG => ?_)
  refine lv_aload_n hx hb dX6_as_5 rfl (lv_at hl 0 rfl) ?_
  refine lv_iload_n hx hb dX6_as_6 rfl (lv_at hl 1 rfl) ?_
  obtain ⟨r_1, I_1, h_1, hf⟩ := zx_b hf
  refine zx_calli (va_runV (As := [.int x1]) (rest := []) ⟨hx, hb, hml, hown, hts⟩ (mX6_isGallery l D ad cA x1 (zxU I 0 10 (0 : Int32)) r_1 I_1 h_1 _) (cwV 1 hts gX6_as_X6_isGallery rfl rfl rfl hd_X6_isGallery ⟨Nat.le_of_ble_eq_true rfl, Nat.le_of_ble_eq_true rfl⟩) (zx_preV hG shX_0 vc_6) rfl rfl hl.1 rfl (lv_room (Nat.le_of_ble_eq_true rfl)) dX6_as_7 ⟨Nat.le_refl _, Nat.le_refl _⟩) hG (fun H locs hG => ?_)
  refine lv_if_ne (tgt := 15) hx hb dX6_as_10 (by decide) (fun c_2 => ?_) (fun c_2 => ?_)
  · have hf := zx_neg c_2 hf
    refine lv_iload_n hx hb dX6_as_15 rfl (lv_at hl 2 rfl) ?_
    refine lv_if_lt (tgt := 24) hx hb dX6_as_16 (by decide) (fun c_3 => ?_) (fun c_3 => ?_)
    · have hf := zx_pos c_3 hf
      refine lv_bipush (v := (-2 : Int32)) hx hb dX6_as_24 (by decide) ?_
      exact zx_iret hx hb hr hlocks rfl hG hf dX6_as_26
    · have hf := zx_neg c_3 hf
      refine lv_iload_n hx hb dX6_as_19 rfl (lv_at hl 2 rfl) ?_
      refine lv_iconst (v := (3 : Int32)) hx hb dX6_as_20 (by decide) ?_
      refine lv_icmp_lt (tgt := 27) hx hb dX6_as_21 (by decide) (fun c_4 => ?_) (fun c_4 => ?_)
      · have hf := zx_pos c_4 hf
        refine lv_iload_n hx hb dX6_as_27 rfl (lv_at hl 2 rfl) ?_
        refine lv_aload_n hx hb dX6_as_28 rfl (lv_at hl 0 rfl) ?_
        refine zx_getR (d := 10) hx hb hts hiX6 hown hG shX_0 vc_6 1 (by decide) rfl L2 dX6_as_29 ?_
        refine zx_getR (d := 12) hx hb hts hiX2 hown hG shX_10 vc_2 3 (by decide) rfl L3 dX6_as_32 ?_
        refine lv_iload_n hx hb dX6_as_35 rfl (lv_at hl 1 rfl) ?_
        obtain ⟨g_5, hf⟩ := zx_in hf
        refine zx_ald hx hb hG shX_12 g_5 dX6_as_36 ?_
        refine lv_icmp_gt (tgt := 44) hx hb dX6_as_37 (by decide) (fun c_6 => ?_) (fun c_6 => ?_)
        · have hf := zx_pos c_6 hf
          refine lv_aload_n hx hb dX6_as_44 rfl (lv_at hl 0 rfl) ?_
          refine lv_iconst (v := (2 : Int32)) hx hb dX6_as_45 (by decide) ?_
          obtain ⟨r_7, I_7, h_7, hf⟩ := zx_b hf
          refine zx_calli (va_runV (As := [.int (2 : Int32)]) (rest := []) ⟨hx, hb, hml, hown, hts⟩ (mX6_faulted l D ad cA (2 : Int32) I_1 r_7 I_7 h_7 _) (cwV 1 hts gX6_as_X6_faulted rfl rfl rfl hd_X6_faulted ⟨Nat.le_of_ble_eq_true rfl, Nat.le_of_ble_eq_true rfl⟩) (zx_preV hG shX_0 vc_6) rfl rfl hl.1 rfl (lv_room (Nat.le_of_ble_eq_true rfl)) dX6_as_46 ⟨Nat.le_refl _, Nat.le_refl _⟩) hG (fun H locs hG => ?_)
          exact zx_iret hx hb hr hlocks rfl hG hf dX6_as_49
        · have hf := zx_neg c_6 hf
          refine lv_iconst (v := (1 : Int32)) hx hb dX6_as_40 (by decide) ?_
          refine lv_goto (tgt := 49) hx hb dX6_as_41 (by decide) ?_
          exact zx_iret hx hb hr hlocks rfl hG hf dX6_as_49
      · have hf := zx_neg c_4 hf
        refine lv_bipush (v := (-2 : Int32)) hx hb dX6_as_24 (by decide) ?_
        exact zx_iret hx hb hr hlocks rfl hG hf dX6_as_26
  · have hf := zx_pos c_2 hf
    refine lv_iconst (v := (-1 : Int32)) hx hb dX6_as_13 (by decide) ?_
    exact zx_iret hx hb hr hlocks rfl hG hf dX6_as_14

set_option maxHeartbeats 4000000 in
set_option maxRecDepth 100000 in
theorem mX6_trace (l : Launch) (D : va_G) (ad : Nat → Nat) (cA : Nat → ClassId) (I : zxI) (r : Int32) (J : zxI) (hf : fX6_trace I = some (r, J)) (sz : Nat) : Met l yX6_trace wsX6_trace { frames := 0, cells := 0, slots := 0, locals := 0 } (va_Pc [.ref (ad 0)] (zxPre D shX ad cA I sz)) (va_Qi (fun (r2 : Int32) (I2 : zxI) => r2 = r ∧ I2 = J) (zxPost D shX ad cA sz) (zxA shX ad sz)) 0 0 (zxA shX ad sz) := by
  refine zx_start (by decide) rfl (Nat.le_of_ble_eq_true rfl) ?_
  intro p e s m args below meth c ls hx hb hr hts hown hlocks hml hG hl
  have hl : lv_has ls 1 [(0, .ref (ad 0))] := hl
  have hiX6 : ∀ w ∈ wsX60, w ∈ wsX6_trace := fun w h => List.mem_cons_of_mem _ (List.mem_append_right _ h)
  have L1 := hts (Cond.fieldLink RX6 64 "GalleryBirds" "trail" "I") (List.mem_of_getElem? (i := 1) rfl)
  unfold fX6_trace at hf
  refine lv_aload_n hx hb dX6_trace_0 rfl (lv_at hl 0 rfl) ?_
  refine zx_getI hx hb hts hiX6 hown hG shX_0 vc_6 9 (by decide) rfl L1 dX6_trace_1 ?_
  exact zx_iret hx hb hr hlocks rfl hG hf dX6_trace_4

set_option maxHeartbeats 4000000 in
set_option maxRecDepth 100000 in
theorem mX6_fault (l : Launch) (D : va_G) (ad : Nat → Nat) (cA : Nat → ClassId) (I : zxI) (r : Int32) (J : zxI) (hf : fX6_fault I = some (r, J)) (sz : Nat) : Met l yX6_fault wsX6_fault { frames := 0, cells := 0, slots := 0, locals := 0 } (va_Pc [.ref (ad 0)] (zxPre D shX ad cA I sz)) (va_Qi (fun (r2 : Int32) (I2 : zxI) => r2 = r ∧ I2 = J) (zxPost D shX ad cA sz) (zxA shX ad sz)) 0 0 (zxA shX ad sz) := by
  refine zx_start (by decide) rfl (Nat.le_of_ble_eq_true rfl) ?_
  intro p e s m args below meth c ls hx hb hr hts hown hlocks hml hG hl
  have hl : lv_has ls 1 [(0, .ref (ad 0))] := hl
  have hiX6 : ∀ w ∈ wsX60, w ∈ wsX6_fault := fun w h => List.mem_cons_of_mem _ (List.mem_append_right _ h)
  have L1 := hts (Cond.fieldLink RX6 67 "GalleryBirds" "lastFault" "I") (List.mem_of_getElem? (i := 1) rfl)
  unfold fX6_fault at hf
  refine lv_aload_n hx hb dX6_fault_0 rfl (lv_at hl 0 rfl) ?_
  refine zx_getI hx hb hts hiX6 hown hG shX_0 vc_6 10 (by decide) rfl L1 dX6_fault_1 ?_
  exact zx_iret hx hb hr hlocks rfl hG hf dX6_fault_4

set_option maxHeartbeats 4000000 in
set_option maxRecDepth 100000 in
theorem mX6_many (l : Launch) (D : va_G) (ad : Nat → Nat) (cA : Nat → ClassId) (x1 : Int32) (I : zxI) (r : Int32) (J : zxI) (hf : fX6_many x1 I = some (r, J)) (sz : Nat) : Met l yX6_many wsX6_many { frames := 1, cells := 0, slots := 0, locals := 20 } (va_Pc [.ref (ad 0), .int x1] (zxPre D shX ad cA I sz)) (va_Qi (fun (r2 : Int32) (I2 : zxI) => r2 = r ∧ I2 = J) (zxPost D shX ad cA sz) (zxA shX ad sz)) 0 0 (zxA shX ad sz) := by
  refine zx_start (by decide) rfl (Nat.le_of_ble_eq_true rfl) ?_
  intro p e s m args below meth c ls hx hb hr hts hown hlocks hml hG hl
  have hl : lv_has ls 2 [(0, .ref (ad 0)), (1, .int x1)] := hl
  have hiX0 : ∀ w ∈ wsX00, w ∈ wsX6_many := fun w h => List.mem_cons_of_mem _ (List.mem_append_left _ (List.mem_append_right _ h))
  have hiX2 : ∀ w ∈ wsX20, w ∈ wsX6_many := fun w h => List.mem_cons_of_mem _ (List.mem_append_left _ (List.mem_append_left _ (List.mem_append_right _ h)))
  have hiX3 : ∀ w ∈ wsX30, w ∈ wsX6_many := fun w h => List.mem_cons_of_mem _ (List.mem_append_right _ h)
  have hiX6 : ∀ w ∈ wsX60, w ∈ wsX6_many := fun w h => List.mem_cons_of_mem _ (List.mem_append_left _ (List.mem_append_left _ (List.mem_append_left _ (List.mem_append_right _ h))))
  have L1 := hts (Cond.fieldLink RX6 20 "GalleryBirds" "pit" "LGalleryBirds$Pit;") (List.mem_of_getElem? (i := 1) rfl)
  have L2 := hts (Cond.fieldLink RX6 97 "GalleryBirds$Pit" "galleries" "I") (List.mem_of_getElem? (i := 2) rfl)
  have L3 := hts (Cond.fieldLink RX6 196 "GalleryBirds$Pit" "words" "I") (List.mem_of_getElem? (i := 3) rfl)
  have L4 := hts (Cond.fieldLink RX6 60 "GalleryBirds" "breaths" "I") (List.mem_of_getElem? (i := 4) rfl)
  have L5 := hts (Cond.fieldLink RX6 27 "GalleryBirds" "air" "LGalleryBirds$Air;") (List.mem_of_getElem? (i := 5) rfl)
  have L6 := hts (Cond.fieldLink RX6 115 "GalleryBirds$Air" "down" "I") (List.mem_of_getElem? (i := 6) rfl)
  have L7 := hts (Cond.fieldLink RX6 34 "GalleryBirds" "readings" "LGalleryBirds$Readings;") (List.mem_of_getElem? (i := 7) rfl)
  have L8 := hts (Cond.fieldLink RX6 206 "GalleryBirds$Readings" "count" "I") (List.mem_of_getElem? (i := 8) rfl)
  unfold fX6_many at hf
  refine lv_iload_n hx hb dX6_many_0 rfl (lv_at hl 1 rfl) ?_
  by_cases c_1 : x1 = (0 : Int32)
  · have hf := zx_pos c_1 hf
    refine lv_tableIn (off := 35) (tgt := 36) hx hb dX6_many_1 (by rw [c_1]; decide) (by rw [c_1]; decide) (by rw [c_1]; decide) (by decide) ?_
    refine lv_aload_n hx hb dX6_many_36 rfl (lv_at hl 0 rfl) ?_
    refine zx_getR (d := 10) hx hb hts hiX6 hown hG shX_0 vc_6 1 (by decide) rfl L1 dX6_many_37 ?_
    refine zx_getI hx hb hts hiX2 hown hG shX_10 vc_2 0 (by decide) rfl L2 dX6_many_40 ?_
    exact zx_iret hx hb hr hlocks rfl hG hf dX6_many_43
  have hf := zx_neg c_1 hf
  by_cases c_2 : x1 = (1 : Int32)
  · have hf := zx_pos c_2 hf
    refine lv_tableIn (off := 43) (tgt := 44) hx hb dX6_many_1 (by rw [c_2]; decide) (by rw [c_2]; decide) (by rw [c_2]; decide) (by decide) ?_
    refine lv_aload_n hx hb dX6_many_44 rfl (lv_at hl 0 rfl) ?_
    refine zx_getR (d := 10) hx hb hts hiX6 hown hG shX_0 vc_6 1 (by decide) rfl L1 dX6_many_45 ?_
    refine zx_getI hx hb hts hiX2 hown hG shX_10 vc_2 1 (by decide) rfl L3 dX6_many_48 ?_
    exact zx_iret hx hb hr hlocks rfl hG hf dX6_many_51
  have hf := zx_neg c_2 hf
  by_cases c_3 : x1 = (2 : Int32)
  · have hf := zx_pos c_3 hf
    refine lv_tableIn (off := 51) (tgt := 52) hx hb dX6_many_1 (by rw [c_3]; decide) (by rw [c_3]; decide) (by rw [c_3]; decide) (by decide) ?_
    refine lv_aload_n hx hb dX6_many_52 rfl (lv_at hl 0 rfl) ?_
    refine zx_getI hx hb hts hiX6 hown hG shX_0 vc_6 8 (by decide) rfl L4 dX6_many_53 ?_
    exact zx_iret hx hb hr hlocks rfl hG hf dX6_many_56
  have hf := zx_neg c_3 hf
  by_cases c_4 : x1 = (3 : Int32)
  · have hf := zx_pos c_4 hf
    refine lv_tableIn (off := 56) (tgt := 57) hx hb dX6_many_1 (by rw [c_4]; decide) (by rw [c_4]; decide) (by rw [c_4]; decide) (by decide) ?_
    refine lv_aload_n hx hb dX6_many_57 rfl (lv_at hl 0 rfl) ?_
    refine zx_getR (d := (zaO 0)) hx hb hts hiX6 hown hG shX_0 vc_6 2 (by decide) rfl L5 dX6_many_58 ?_
    refine zx_getI hx hb hts hiX0 hown hG (shX_aO (by decide : 0 < 8)) vc_0 1 (by decide) rfl L6 dX6_many_61 ?_
    obtain ⟨r_6, I_6, h_6, hf⟩ := zx_b hf
    refine zx_calli (va_runS (As := [.int (I (zaO 0) 1)]) (rest := []) ⟨hx, hb, hml, hown, hts⟩ (mJ6_bitCount_0f7a4 l D ad cA (I (zaO 0) 1) I r_6 I_6 h_6 _) (va_cwS 1 hts gX6_many_J6_bitCount_0f7a4 rfl rfl rfl hd_J6_bitCount_0f7a4 ⟨Nat.le_of_ble_eq_true rfl, Nat.le_of_ble_eq_true rfl⟩) (zx_preS hG) rfl rfl hl.1 rfl (lv_room (Nat.le_of_ble_eq_true rfl)) dX6_many_64 ⟨Nat.le_refl _, Nat.le_refl _⟩) hG (fun H locs hG => ?_)
    exact zx_iret hx hb hr hlocks rfl hG hf dX6_many_67
  have hf := zx_neg c_4 hf
  by_cases c_5 : x1 = (4 : Int32)
  · have hf := zx_pos c_5 hf
    refine lv_tableIn (off := 67) (tgt := 68) hx hb dX6_many_1 (by rw [c_5]; decide) (by rw [c_5]; decide) (by rw [c_5]; decide) (by decide) ?_
    refine lv_aload_n hx hb dX6_many_68 rfl (lv_at hl 0 rfl) ?_
    refine zx_getR (d := 31) hx hb hts hiX6 hown hG shX_0 vc_6 3 (by decide) rfl L7 dX6_many_69 ?_
    refine zx_getI hx hb hts hiX3 hown hG shX_31 vc_3 0 (by decide) rfl L8 dX6_many_72 ?_
    exact zx_iret hx hb hr hlocks rfl hG hf dX6_many_75
  have hf := zx_neg c_5 hf
  refine lv_tableOut (tgt := 76) hx hb dX6_many_1 (zx_tabOut 4 (by decide) (fun k hk => by rcases (show k = 0 ∨ k = 1 ∨ k = 2 ∨ k = 3 ∨ k = 4 by omega) with rfl | rfl | rfl | rfl | rfl <;> assumption)) (by decide) ?_
  refine lv_bipush (v := (-2 : Int32)) hx hb dX6_many_76 (by decide) ?_
  exact zx_iret hx hb hr hlocks rfl hG hf dX6_many_78

set_option maxHeartbeats 4000000 in
set_option maxRecDepth 100000 in
theorem mX7_fails (l : Launch) (D : va_G) (ad : Nat → Nat) (cA : Nat → ClassId) (x1 : Int32) (I : zxI) (r : Int32) (J : zxI) (hf : fX7_fails x1 I = some (r, J)) (sz : Nat) : Met l yX7_fails wsX7_fails { frames := 0, cells := 0, slots := 0, locals := 0 } (va_Pc [.ref (ad 0), .int x1] (zxPre D shM ad cA I sz)) (va_Qi (fun (r2 : Int32) (I2 : zxI) => r2 = r ∧ I2 = J) (zxPost D shM ad cA sz) (zxA shM ad sz)) 0 0 (zxA shM ad sz) := by
  refine zx_start (by decide) rfl (Nat.le_of_ble_eq_true rfl) ?_
  intro p e s m args below meth c ls hx hb hr hts hown hlocks hml hG hl
  have hl : lv_has ls 2 [(0, .ref (ad 0)), (1, .int x1)] := hl
  have hiX7 : ∀ w ∈ wsX70, w ∈ wsX7_fails := fun w h => List.mem_cons_of_mem _ (List.mem_append_right _ h)
  have L1 := hts (Cond.fieldLink RX7 55 "GalleryBirdsModel" "fault" "I") (List.mem_of_getElem? (i := 1) rfl)
  unfold fX7_fails at hf
  refine lv_aload_n hx hb dX7_fails_0 rfl (lv_at hl 0 rfl) ?_
  refine lv_iload_n hx hb dX7_fails_1 rfl (lv_at hl 1 rfl) ?_
  refine zx_putI hx hb hts hiX7 tyX7 tyX7_ok nmX7 hown hG shM_0 vc_7 0 (by decide) rfl L1 rfl (ty := .int) (tyX7_ok 0 (by decide)) rfl rfl dX7_fails_2 (fun H locs hG => ?_)
  refine lv_bipush (v := (-10 : Int32)) hx hb dX7_fails_5 (by decide) ?_
  refine lv_iload_n hx hb dX7_fails_7 rfl (lv_at hl 1 rfl) ?_
  refine lv_isub hx hb dX7_fails_8 ?_
  exact zx_iret hx hb hr hlocks rfl hG hf dX7_fails_9

set_option maxHeartbeats 4000000 in
set_option maxRecDepth 100000 in
theorem mX7_lost (l : Launch) (D : va_G) (ad : Nat → Nat) (cA : Nat → ClassId) (x1 : Int32) (I : zxI) (r : Int64) (J : zxI) (hf : fX7_lost x1 I = some (r, J)) (sz : Nat) : Met l yX7_lost wsX7_lost { frames := 0, cells := 0, slots := 0, locals := 0 } (va_Pc [.ref (ad 0), .int x1] (zxPre D shM ad cA I sz)) (va_Ql (fun (r2 : Int64) (I2 : zxI) => r2 = r ∧ I2 = J) (zxPost D shM ad cA sz) (zxA shM ad sz)) 0 0 (zxA shM ad sz) := by
  refine zx_start (by decide) rfl (Nat.le_of_ble_eq_true rfl) ?_
  intro p e s m args below meth c ls hx hb hr hts hown hlocks hml hG hl
  have hl : lv_has ls 2 [(0, .ref (ad 0)), (1, .int x1)] := hl
  have hiX7 : ∀ w ∈ wsX70, w ∈ wsX7_lost := fun w h => List.mem_cons_of_mem _ (List.mem_append_right _ h)
  have L1 := hts (Cond.fieldLink RX7 55 "GalleryBirdsModel" "fault" "I") (List.mem_of_getElem? (i := 1) rfl)
  have L2 := hts (Cond.constantLong RX7 59 (-9223372036854775808)) (List.mem_of_getElem? (i := 2) rfl)
  unfold fX7_lost at hf
  refine lv_aload_n hx hb dX7_lost_0 rfl (lv_at hl 0 rfl) ?_
  refine lv_iload_n hx hb dX7_lost_1 rfl (lv_at hl 1 rfl) ?_
  refine zx_putI hx hb hts hiX7 tyX7 tyX7_ok nmX7 hown hG shM_0 vc_7 0 (by decide) rfl L1 rfl (ty := .int) (tyX7_ok 0 (by decide)) rfl rfl dX7_lost_2 (fun H locs hG => ?_)
  refine lv_ldc2 (v := (-9223372036854775808 : Int64)) hx hb hown L2 dX7_lost_5 ?_
  exact zx_lret hx hb hr hlocks hG hf dX7_lost_8

set_option maxHeartbeats 4000000 in
set_option maxRecDepth 100000 in
theorem mX7_within (l : Launch) (D : va_G) (ad : Nat → Nat) (cA : Nat → ClassId) (x0 : Int32) (x1 : Int32) (x2 : Int32) (I : zxI) (r : Int32) (J : zxI) (hf : fX7_within x0 x1 x2 I = some (r, J)) (sz : Nat) : Met l yX7_within wsX7_within { frames := 0, cells := 0, slots := 0, locals := 0 } (va_Pc [.int x0, .int x1, .int x2] (zxPre D shM ad cA I sz)) (va_Qi (fun (r2 : Int32) (I2 : zxI) => r2 = r ∧ I2 = J) (zxPost D shM ad cA sz) (zxA shM ad sz)) 0 0 (zxA shM ad sz) := by
  refine zx_start (by decide) rfl (Nat.le_of_ble_eq_true rfl) ?_
  intro p e s m args below meth c ls hx hb hr hts hown hlocks hml hG hl
  have hl : lv_has ls 3 [(0, .int x0), (1, .int x1), (2, .int x2)] := hl
  unfold fX7_within at hf
  refine lv_iload_n hx hb dX7_within_0 rfl (lv_at hl 0 rfl) ?_
  refine lv_iload_n hx hb dX7_within_1 rfl (lv_at hl 1 rfl) ?_
  refine lv_icmp_lt (tgt := 14) hx hb dX7_within_2 (by decide) (fun c_1 => ?_) (fun c_1 => ?_)
  · have hf := zx_pos c_1 hf
    refine lv_iconst (v := (0 : Int32)) hx hb dX7_within_14 (by decide) ?_
    exact zx_iret hx hb hr hlocks rfl hG hf dX7_within_15
  · have hf := zx_neg c_1 hf
    refine lv_iload_n hx hb dX7_within_5 rfl (lv_at hl 0 rfl) ?_
    refine lv_iload_n hx hb dX7_within_6 rfl (lv_at hl 2 rfl) ?_
    refine lv_icmp_gt (tgt := 14) hx hb dX7_within_7 (by decide) (fun c_2 => ?_) (fun c_2 => ?_)
    · have hf := zx_pos c_2 hf
      refine lv_iconst (v := (0 : Int32)) hx hb dX7_within_14 (by decide) ?_
      exact zx_iret hx hb hr hlocks rfl hG hf dX7_within_15
    · have hf := zx_neg c_2 hf
      refine lv_iconst (v := (1 : Int32)) hx hb dX7_within_10 (by decide) ?_
      refine lv_goto (tgt := 15) hx hb dX7_within_11 (by decide) ?_
      exact zx_iret hx hb hr hlocks rfl hG hf dX7_within_15

set_option maxHeartbeats 4000000 in
set_option maxRecDepth 100000 in
theorem mX7_isSheet (l : Launch) (D : va_G) (ad : Nat → Nat) (cA : Nat → ClassId) (x0 : Int32) (I : zxI) (r : Int32) (J : zxI) (hf : fX7_isSheet x0 I = some (r, J)) (sz : Nat) : Met l yX7_isSheet wsX7_isSheet { frames := 1, cells := 0, slots := 0, locals := 22 } (va_Pc [.int x0] (zxPre D shM ad cA I sz)) (va_Qi (fun (r2 : Int32) (I2 : zxI) => r2 = r ∧ I2 = J) (zxPost D shM ad cA sz) (zxA shM ad sz)) 0 0 (zxA shM ad sz) := by
  refine zx_start (by decide) rfl (Nat.le_of_ble_eq_true rfl) ?_
  intro p e s m args below meth c ls hx hb hr hts hown hlocks hml hG hl
  have hl : lv_has ls 1 [(0, .int x0)] := hl
  unfold fX7_isSheet at hf
  refine lv_iload_n hx hb dX7_isSheet_0 rfl (lv_at hl 0 rfl) ?_
  refine lv_iconst (v := (0 : Int32)) hx hb dX7_isSheet_1 (by decide) ?_
  refine lv_iconst (v := (3 : Int32)) hx hb dX7_isSheet_2 (by decide) ?_
  obtain ⟨r_1, I_1, h_1, hf⟩ := zx_b hf
  refine zx_calli (va_runS (As := [.int x0, .int (0 : Int32), .int (3 : Int32)]) (rest := []) ⟨hx, hb, hml, hown, hts⟩ (mX7_within l D ad cA x0 (0 : Int32) (3 : Int32) I r_1 I_1 h_1 _) (va_cwS 3 hts gX7_isSheet_X7_within rfl rfl rfl hd_X7_within ⟨Nat.le_of_ble_eq_true rfl, Nat.le_of_ble_eq_true rfl⟩) (zx_preS hG) rfl rfl hl.1 rfl (lv_room (Nat.le_of_ble_eq_true rfl)) dX7_isSheet_3 ⟨Nat.le_refl _, Nat.le_refl _⟩) hG (fun H locs hG => ?_)
  obtain ⟨g_2, hf⟩ := zx_gd hf
  exact zx_iret hx hb hr hlocks (zx_nz g_2) hG hf dX7_isSheet_6

set_option maxHeartbeats 4000000 in
set_option maxRecDepth 100000 in
theorem mX7_isSort (l : Launch) (D : va_G) (ad : Nat → Nat) (cA : Nat → ClassId) (x0 : Int32) (I : zxI) (r : Int32) (J : zxI) (hf : fX7_isSort x0 I = some (r, J)) (sz : Nat) : Met l yX7_isSort wsX7_isSort { frames := 1, cells := 0, slots := 0, locals := 22 } (va_Pc [.int x0] (zxPre D shM ad cA I sz)) (va_Qi (fun (r2 : Int32) (I2 : zxI) => r2 = r ∧ I2 = J) (zxPost D shM ad cA sz) (zxA shM ad sz)) 0 0 (zxA shM ad sz) := by
  refine zx_start (by decide) rfl (Nat.le_of_ble_eq_true rfl) ?_
  intro p e s m args below meth c ls hx hb hr hts hown hlocks hml hG hl
  have hl : lv_has ls 1 [(0, .int x0)] := hl
  unfold fX7_isSort at hf
  refine lv_iload_n hx hb dX7_isSort_0 rfl (lv_at hl 0 rfl) ?_
  refine lv_iconst (v := (0 : Int32)) hx hb dX7_isSort_1 (by decide) ?_
  refine lv_iconst (v := (2 : Int32)) hx hb dX7_isSort_2 (by decide) ?_
  obtain ⟨r_1, I_1, h_1, hf⟩ := zx_b hf
  refine zx_calli (va_runS (As := [.int x0, .int (0 : Int32), .int (2 : Int32)]) (rest := []) ⟨hx, hb, hml, hown, hts⟩ (mX7_within l D ad cA x0 (0 : Int32) (2 : Int32) I r_1 I_1 h_1 _) (va_cwS 3 hts gX7_isSort_X7_within rfl rfl rfl hd_X7_within ⟨Nat.le_of_ble_eq_true rfl, Nat.le_of_ble_eq_true rfl⟩) (zx_preS hG) rfl rfl hl.1 rfl (lv_room (Nat.le_of_ble_eq_true rfl)) dX7_isSort_3 ⟨Nat.le_refl _, Nat.le_refl _⟩) hG (fun H locs hG => ?_)
  obtain ⟨g_2, hf⟩ := zx_gd hf
  exact zx_iret hx hb hr hlocks (zx_nz g_2) hG hf dX7_isSort_6

set_option maxHeartbeats 4000000 in
set_option maxRecDepth 100000 in
theorem mX7_against (l : Launch) (D : va_G) (ad : Nat → Nat) (cA : Nat → ClassId) (x1 : Int32) (x2 : Int32) (x3 : Int32) (x4 : Int32) (I : zxI) (r : Int32) (J : zxI) (hf : fX7_against x1 x2 x3 x4 I = some (r, J)) (sz : Nat) : Met l yX7_against wsX7_against { frames := 0, cells := 0, slots := 0, locals := 0 } (va_Pc [.ref (ad 0), .int x1, .int x2, .int x3, .int x4] (zxPre D shM ad cA I sz)) (va_Qi (fun (r2 : Int32) (I2 : zxI) => r2 = r ∧ I2 = J) (zxPost D shM ad cA sz) (zxA shM ad sz)) 0 0 (zxA shM ad sz) := by
  refine zx_start (by decide) rfl (Nat.le_of_ble_eq_true rfl) ?_
  intro p e s m args below meth c ls hx hb hr hts hown hlocks hml hG hl
  have hl : lv_has ls 5 [(0, .ref (ad 0)), (1, .int x1), (2, .int x2), (3, .int x3), (4, .int x4)] := hl
  have hiX7 : ∀ w ∈ wsX70, w ∈ wsX7_against := fun w h => List.mem_cons_of_mem _ (List.mem_append_right _ h)
  have L1 := hts (Cond.fieldLink RX7 9 "GalleryBirdsModel" "sorts" "[I") (List.mem_of_getElem? (i := 1) rfl)
  have L2 := hts (Cond.fieldLink RX7 13 "GalleryBirdsModel" "sheetLong" "[I") (List.mem_of_getElem? (i := 2) rfl)
  unfold fX7_against at hf
  refine lv_aload_n hx hb dX7_against_0 rfl (lv_at hl 0 rfl) ?_
  refine zx_getR (d := 1) hx hb hts hiX7 hown hG shM_0 vc_7 2 (by decide) rfl L1 dX7_against_1 ?_
  refine lv_iload_n hx hb dX7_against_4 rfl (lv_at hl 1 rfl) ?_
  obtain ⟨g_1, hf⟩ := zx_in hf
  refine zx_ald hx hb hG shM_1 g_1 dX7_against_5 ?_
  refine lv_bipush (v := (-9 : Int32)) hx hb dX7_against_6 (by decide) ?_
  refine lv_icmp_eq (tgt := 23) hx hb dX7_against_8 (by decide) (fun c_2 => ?_) (fun c_2 => ?_)
  · have hf := zx_pos c_2 hf
    refine lv_aload_n hx hb dX7_against_23 rfl (lv_at hl 0 rfl) ?_
    refine zx_getR (d := 1) hx hb hts hiX7 hown hG shM_0 vc_7 2 (by decide) rfl L1 dX7_against_24 ?_
    refine lv_iload_n hx hb dX7_against_27 rfl (lv_at hl 1 rfl) ?_
    refine zx_ald hx hb hG shM_1 g_1 dX7_against_28 ?_
    refine lv_bipush (v := (-9 : Int32)) hx hb dX7_against_29 (by decide) ?_
    refine lv_icmp_ne (tgt := 36) hx hb dX7_against_31 (by decide) (fun c_4 => ?_) (fun c_4 => ?_)
    · have hf := zx_neg c_4 hf
      refine lv_iload hx hb dX7_against_36 (lv_at hl 4 rfl) ?_
      refine lv_if_ge (tgt := 43) hx hb dX7_against_38 (by decide) (fun c_5 => ?_) (fun c_5 => ?_)
      · have hf := zx_pos c_5 hf
        refine lv_iload_n hx hb dX7_against_43 rfl (lv_at hl 3 rfl) ?_
        refine lv_if_lt (tgt := 70) hx hb dX7_against_44 (by decide) (fun c_6 => ?_) (fun c_6 => ?_)
        · have hf := zx_pos c_6 hf
          refine lv_iconst (v := (3 : Int32)) hx hb dX7_against_70 (by decide) ?_
          refine lv_goto (tgt := 75) hx hb dX7_against_71 (by decide) ?_
          exact zx_iret hx hb hr hlocks rfl hG hf dX7_against_75
        · have hf := zx_neg c_6 hf
          refine lv_iload_n hx hb dX7_against_47 rfl (lv_at hl 3 rfl) ?_
          refine lv_aload_n hx hb dX7_against_48 rfl (lv_at hl 0 rfl) ?_
          refine zx_getR (d := 2) hx hb hts hiX7 hown hG shM_0 vc_7 3 (by decide) rfl L2 dX7_against_49 ?_
          refine lv_iload_n hx hb dX7_against_52 rfl (lv_at hl 1 rfl) ?_
          refine zx_ald hx hb hG shM_2 g_1 dX7_against_53 ?_
          refine lv_icmp_gt (tgt := 70) hx hb dX7_against_54 (by decide) (fun c_8 => ?_) (fun c_8 => ?_)
          · have hf := zx_pos c_8 hf
            refine lv_iconst (v := (3 : Int32)) hx hb dX7_against_70 (by decide) ?_
            refine lv_goto (tgt := 75) hx hb dX7_against_71 (by decide) ?_
            exact zx_iret hx hb hr hlocks rfl hG hf dX7_against_75
          · have hf := zx_neg c_8 hf
            refine lv_iload hx hb dX7_against_57 (lv_at hl 4 rfl) ?_
            refine lv_aload_n hx hb dX7_against_59 rfl (lv_at hl 0 rfl) ?_
            refine zx_getR (d := 2) hx hb hts hiX7 hown hG shM_0 vc_7 3 (by decide) rfl L2 dX7_against_60 ?_
            refine lv_iload_n hx hb dX7_against_63 rfl (lv_at hl 1 rfl) ?_
            refine zx_ald hx hb hG shM_2 g_1 dX7_against_64 ?_
            refine lv_iload_n hx hb dX7_against_65 rfl (lv_at hl 3 rfl) ?_
            refine lv_isub hx hb dX7_against_66 ?_
            refine lv_icmp_le (tgt := 74) hx hb dX7_against_67 (by decide) (fun c_10 => ?_) (fun c_10 => ?_)
            · have hf := zx_pos c_10 hf
              refine lv_iconst (v := (0 : Int32)) hx hb dX7_against_74 (by decide) ?_
              exact zx_iret hx hb hr hlocks rfl hG hf dX7_against_75
            · have hf := zx_neg c_10 hf
              refine lv_iconst (v := (3 : Int32)) hx hb dX7_against_70 (by decide) ?_
              refine lv_goto (tgt := 75) hx hb dX7_against_71 (by decide) ?_
              exact zx_iret hx hb hr hlocks rfl hG hf dX7_against_75
      · have hf := zx_neg c_5 hf
        refine lv_iconst (v := (4 : Int32)) hx hb dX7_against_41 (by decide) ?_
        exact zx_iret hx hb hr hlocks rfl hG hf dX7_against_42
    · have hf := zx_pos c_4 hf
      refine lv_iconst (v := (1 : Int32)) hx hb dX7_against_34 (by decide) ?_
      exact zx_iret hx hb hr hlocks rfl hG hf dX7_against_35
  · have hf := zx_neg c_2 hf
    refine lv_aload_n hx hb dX7_against_11 rfl (lv_at hl 0 rfl) ?_
    refine zx_getR (d := 1) hx hb hts hiX7 hown hG shM_0 vc_7 2 (by decide) rfl L1 dX7_against_12 ?_
    refine lv_iload_n hx hb dX7_against_15 rfl (lv_at hl 1 rfl) ?_
    refine zx_ald hx hb hG shM_1 g_1 dX7_against_16 ?_
    refine lv_iload_n hx hb dX7_against_17 rfl (lv_at hl 2 rfl) ?_
    refine lv_icmp_eq (tgt := 23) hx hb dX7_against_18 (by decide) (fun c_12 => ?_) (fun c_12 => ?_)
    · have hf := zx_pos c_12 hf
      refine lv_aload_n hx hb dX7_against_23 rfl (lv_at hl 0 rfl) ?_
      refine zx_getR (d := 1) hx hb hts hiX7 hown hG shM_0 vc_7 2 (by decide) rfl L1 dX7_against_24 ?_
      refine lv_iload_n hx hb dX7_against_27 rfl (lv_at hl 1 rfl) ?_
      refine zx_ald hx hb hG shM_1 g_1 dX7_against_28 ?_
      refine lv_bipush (v := (-9 : Int32)) hx hb dX7_against_29 (by decide) ?_
      refine lv_icmp_ne (tgt := 36) hx hb dX7_against_31 (by decide) (fun c_14 => ?_) (fun c_14 => ?_)
      · have hf := zx_neg c_14 hf
        refine lv_iload hx hb dX7_against_36 (lv_at hl 4 rfl) ?_
        refine lv_if_ge (tgt := 43) hx hb dX7_against_38 (by decide) (fun c_15 => ?_) (fun c_15 => ?_)
        · have hf := zx_pos c_15 hf
          refine lv_iload_n hx hb dX7_against_43 rfl (lv_at hl 3 rfl) ?_
          refine lv_if_lt (tgt := 70) hx hb dX7_against_44 (by decide) (fun c_16 => ?_) (fun c_16 => ?_)
          · have hf := zx_pos c_16 hf
            refine lv_iconst (v := (3 : Int32)) hx hb dX7_against_70 (by decide) ?_
            refine lv_goto (tgt := 75) hx hb dX7_against_71 (by decide) ?_
            exact zx_iret hx hb hr hlocks rfl hG hf dX7_against_75
          · have hf := zx_neg c_16 hf
            refine lv_iload_n hx hb dX7_against_47 rfl (lv_at hl 3 rfl) ?_
            refine lv_aload_n hx hb dX7_against_48 rfl (lv_at hl 0 rfl) ?_
            refine zx_getR (d := 2) hx hb hts hiX7 hown hG shM_0 vc_7 3 (by decide) rfl L2 dX7_against_49 ?_
            refine lv_iload_n hx hb dX7_against_52 rfl (lv_at hl 1 rfl) ?_
            refine zx_ald hx hb hG shM_2 g_1 dX7_against_53 ?_
            refine lv_icmp_gt (tgt := 70) hx hb dX7_against_54 (by decide) (fun c_18 => ?_) (fun c_18 => ?_)
            · have hf := zx_pos c_18 hf
              refine lv_iconst (v := (3 : Int32)) hx hb dX7_against_70 (by decide) ?_
              refine lv_goto (tgt := 75) hx hb dX7_against_71 (by decide) ?_
              exact zx_iret hx hb hr hlocks rfl hG hf dX7_against_75
            · have hf := zx_neg c_18 hf
              refine lv_iload hx hb dX7_against_57 (lv_at hl 4 rfl) ?_
              refine lv_aload_n hx hb dX7_against_59 rfl (lv_at hl 0 rfl) ?_
              refine zx_getR (d := 2) hx hb hts hiX7 hown hG shM_0 vc_7 3 (by decide) rfl L2 dX7_against_60 ?_
              refine lv_iload_n hx hb dX7_against_63 rfl (lv_at hl 1 rfl) ?_
              refine zx_ald hx hb hG shM_2 g_1 dX7_against_64 ?_
              refine lv_iload_n hx hb dX7_against_65 rfl (lv_at hl 3 rfl) ?_
              refine lv_isub hx hb dX7_against_66 ?_
              refine lv_icmp_le (tgt := 74) hx hb dX7_against_67 (by decide) (fun c_20 => ?_) (fun c_20 => ?_)
              · have hf := zx_pos c_20 hf
                refine lv_iconst (v := (0 : Int32)) hx hb dX7_against_74 (by decide) ?_
                exact zx_iret hx hb hr hlocks rfl hG hf dX7_against_75
              · have hf := zx_neg c_20 hf
                refine lv_iconst (v := (3 : Int32)) hx hb dX7_against_70 (by decide) ?_
                refine lv_goto (tgt := 75) hx hb dX7_against_71 (by decide) ?_
                exact zx_iret hx hb hr hlocks rfl hG hf dX7_against_75
        · have hf := zx_neg c_15 hf
          refine lv_iconst (v := (4 : Int32)) hx hb dX7_against_41 (by decide) ?_
          exact zx_iret hx hb hr hlocks rfl hG hf dX7_against_42
      · have hf := zx_pos c_14 hf
        refine lv_iconst (v := (1 : Int32)) hx hb dX7_against_34 (by decide) ?_
        exact zx_iret hx hb hr hlocks rfl hG hf dX7_against_35
    · have hf := zx_neg c_12 hf
      refine lv_iconst (v := (2 : Int32)) hx hb dX7_against_21 (by decide) ?_
      exact zx_iret hx hb hr hlocks rfl hG hf dX7_against_22

set_option maxHeartbeats 4000000 in
set_option maxRecDepth 100000 in
theorem mX7_isGallery (l : Launch) (D : va_G) (ad : Nat → Nat) (cA : Nat → ClassId) (x1 : Int32) (I : zxI) (r : Int32) (J : zxI) (hf : fX7_isGallery x1 I = some (r, J)) (sz : Nat) : Met l yX7_isGallery wsX7_isGallery { frames := 0, cells := 0, slots := 0, locals := 0 } (va_Pc [.ref (ad 0), .int x1] (zxPre D shM ad cA I sz)) (va_Qi (fun (r2 : Int32) (I2 : zxI) => r2 = r ∧ I2 = J) (zxPost D shM ad cA sz) (zxA shM ad sz)) 0 0 (zxA shM ad sz) := by
  refine zx_start (by decide) rfl (Nat.le_of_ble_eq_true rfl) ?_
  intro p e s m args below meth c ls hx hb hr hts hown hlocks hml hG hl
  have hl : lv_has ls 2 [(0, .ref (ad 0)), (1, .int x1)] := hl
  have hiX7 : ∀ w ∈ wsX70, w ∈ wsX7_isGallery := fun w h => List.mem_cons_of_mem _ (List.mem_append_right _ h)
  have L1 := hts (Cond.fieldLink RX7 65 "GalleryBirdsModel" "galleries" "I") (List.mem_of_getElem? (i := 1) rfl)
  unfold fX7_isGallery at hf
  refine lv_iload_n hx hb dX7_isGallery_0 rfl (lv_at hl 1 rfl) ?_
  refine lv_if_lt (tgt := 16) hx hb dX7_isGallery_1 (by decide) (fun c_1 => ?_) (fun c_1 => ?_)
  · have hf := zx_pos c_1 hf
    refine lv_iconst (v := (0 : Int32)) hx hb dX7_isGallery_16 (by decide) ?_
    exact zx_iret hx hb hr hlocks rfl hG hf dX7_isGallery_17
  · have hf := zx_neg c_1 hf
    refine lv_iload_n hx hb dX7_isGallery_4 rfl (lv_at hl 1 rfl) ?_
    refine lv_aload_n hx hb dX7_isGallery_5 rfl (lv_at hl 0 rfl) ?_
    refine zx_getI hx hb hts hiX7 hown hG shM_0 vc_7 5 (by decide) rfl L1 dX7_isGallery_6 ?_
    refine lv_icmp_ge (tgt := 16) hx hb dX7_isGallery_9 (by decide) (fun c_2 => ?_) (fun c_2 => ?_)
    · have hf := zx_pos c_2 hf
      refine lv_iconst (v := (0 : Int32)) hx hb dX7_isGallery_16 (by decide) ?_
      exact zx_iret hx hb hr hlocks rfl hG hf dX7_isGallery_17
    · have hf := zx_neg c_2 hf
      refine lv_iconst (v := (1 : Int32)) hx hb dX7_isGallery_12 (by decide) ?_
      refine lv_goto (tgt := 17) hx hb dX7_isGallery_13 (by decide) ?_
      exact zx_iret hx hb hr hlocks rfl hG hf dX7_isGallery_17

set_option maxHeartbeats 4000000 in
set_option maxRecDepth 100000 in
theorem mX7_isWord (l : Launch) (D : va_G) (ad : Nat → Nat) (cA : Nat → ClassId) (x1 : Int32) (I : zxI) (r : Int32) (J : zxI) (hf : fX7_isWord x1 I = some (r, J)) (sz : Nat) : Met l yX7_isWord wsX7_isWord { frames := 0, cells := 0, slots := 0, locals := 0 } (va_Pc [.ref (ad 0), .int x1] (zxPre D shM ad cA I sz)) (va_Qi (fun (r2 : Int32) (I2 : zxI) => r2 = r ∧ I2 = J) (zxPost D shM ad cA sz) (zxA shM ad sz)) 0 0 (zxA shM ad sz) := by
  refine zx_start (by decide) rfl (Nat.le_of_ble_eq_true rfl) ?_
  intro p e s m args below meth c ls hx hb hr hts hown hlocks hml hG hl
  have hl : lv_has ls 2 [(0, .ref (ad 0)), (1, .int x1)] := hl
  have hiX7 : ∀ w ∈ wsX70, w ∈ wsX7_isWord := fun w h => List.mem_cons_of_mem _ (List.mem_append_right _ h)
  have L1 := hts (Cond.fieldLink RX7 68 "GalleryBirdsModel" "words" "I") (List.mem_of_getElem? (i := 1) rfl)
  unfold fX7_isWord at hf
  refine lv_iload_n hx hb dX7_isWord_0 rfl (lv_at hl 1 rfl) ?_
  refine lv_if_lt (tgt := 16) hx hb dX7_isWord_1 (by decide) (fun c_1 => ?_) (fun c_1 => ?_)
  · have hf := zx_pos c_1 hf
    refine lv_iconst (v := (0 : Int32)) hx hb dX7_isWord_16 (by decide) ?_
    exact zx_iret hx hb hr hlocks rfl hG hf dX7_isWord_17
  · have hf := zx_neg c_1 hf
    refine lv_iload_n hx hb dX7_isWord_4 rfl (lv_at hl 1 rfl) ?_
    refine lv_aload_n hx hb dX7_isWord_5 rfl (lv_at hl 0 rfl) ?_
    refine zx_getI hx hb hts hiX7 hown hG shM_0 vc_7 6 (by decide) rfl L1 dX7_isWord_6 ?_
    refine lv_icmp_ge (tgt := 16) hx hb dX7_isWord_9 (by decide) (fun c_2 => ?_) (fun c_2 => ?_)
    · have hf := zx_pos c_2 hf
      refine lv_iconst (v := (0 : Int32)) hx hb dX7_isWord_16 (by decide) ?_
      exact zx_iret hx hb hr hlocks rfl hG hf dX7_isWord_17
    · have hf := zx_neg c_2 hf
      refine lv_iconst (v := (1 : Int32)) hx hb dX7_isWord_12 (by decide) ?_
      refine lv_goto (tgt := 17) hx hb dX7_isWord_13 (by decide) ?_
      exact zx_iret hx hb hr hlocks rfl hG hf dX7_isWord_17

set_option maxHeartbeats 4000000 in
set_option maxRecDepth 100000 in
theorem mX7_isOf (l : Launch) (D : va_G) (ad : Nat → Nat) (cA : Nat → ClassId) (x0 : Int32) (x1 : Int32) (I : zxI) (r : Int32) (J : zxI) (hf : fX7_isOf x0 x1 I = some (r, J)) (sz : Nat) : Met l yX7_isOf wsX7_isOf { frames := 0, cells := 0, slots := 0, locals := 0 } (va_Pc [.int x0, .int x1] (zxPre D shM ad cA I sz)) (va_Qi (fun (r2 : Int32) (I2 : zxI) => r2 = r ∧ I2 = J) (zxPost D shM ad cA sz) (zxA shM ad sz)) 0 0 (zxA shM ad sz) := by
  refine zx_start (by decide) rfl (Nat.le_of_ble_eq_true rfl) ?_
  intro p e s m args below meth c ls hx hb hr hts hown hlocks hml hG hl
  have hl : lv_has ls 2 [(0, .int x0), (1, .int x1)] := hl
  unfold fX7_isOf at hf
  refine lv_iload_n hx hb dX7_isOf_0 rfl (lv_at hl 0 rfl) ?_
  refine lv_iload_n hx hb dX7_isOf_1 rfl (lv_at hl 1 rfl) ?_
  refine lv_ishr hx hb dX7_isOf_2 ?_
  refine lv_iconst (v := (1 : Int32)) hx hb dX7_isOf_3 (by decide) ?_
  refine lv_iand hx hb dX7_isOf_4 ?_
  refine lv_iconst (v := (1 : Int32)) hx hb dX7_isOf_5 (by decide) ?_
  refine lv_icmp_ne (tgt := 13) hx hb dX7_isOf_6 (by decide) (fun c_1 => ?_) (fun c_1 => ?_)
  · have hf := zx_neg c_1 hf
    refine lv_iconst (v := (0 : Int32)) hx hb dX7_isOf_13 (by decide) ?_
    exact zx_iret hx hb hr hlocks rfl hG hf dX7_isOf_14
  · have hf := zx_pos c_1 hf
    refine lv_iconst (v := (1 : Int32)) hx hb dX7_isOf_9 (by decide) ?_
    refine lv_goto (tgt := 14) hx hb dX7_isOf_10 (by decide) ?_
    exact zx_iret hx hb hr hlocks rfl hG hf dX7_isOf_14

set_option maxHeartbeats 4000000 in
set_option maxRecDepth 100000 in
theorem mX7_digit (l : Launch) (D : va_G) (ad : Nat → Nat) (cA : Nat → ClassId) (x1 : Int32) (x2 : Int32) (x3 : Int32) (I : zxI) (r : Int32) (J : zxI) (hf : fX7_digit x1 x2 x3 I = some (r, J)) (sz : Nat) : Met l yX7_digit wsX7_digit { frames := 1, cells := 0, slots := 0, locals := 22 } (va_Pc [.ref (ad 0), .int x1, .int x2, .int x3] (zxPre D shM ad cA I sz)) (va_Qi (fun (r2 : Int32) (I2 : zxI) => r2 = r ∧ I2 = J) (zxPost D shM ad cA sz) (zxA shM ad sz)) 0 0 (zxA shM ad sz) := by
  refine zx_start (by decide) rfl (Nat.le_of_ble_eq_true rfl) ?_
  intro p e s m args below meth c ls hx hb hr hts hown hlocks hml hG hl
  have hl : lv_has ls 4 [(0, .ref (ad 0)), (1, .int x1), (2, .int x2), (3, .int x3)] := hl
  have hiX7 : ∀ w ∈ wsX70, w ∈ wsX7_digit := fun w h => List.mem_cons_of_mem _ (List.mem_append_right _ h)
  have L1 := hts (Cond.fieldLink RX7 71 "GalleryBirdsModel" "at" "I") (List.mem_of_getElem? (i := 1) rfl)
  have L2 := hts (Cond.fieldLink RX7 16 "GalleryBirdsModel" "cells" "[I") (List.mem_of_getElem? (i := 2) rfl)
  unfold fX7_digit at hf
  refine lv_aload_n hx hb dX7_digit_0 rfl (lv_at hl 0 rfl) ?_
  refine zx_getI hx hb hts hiX7 hown hG shM_0 vc_7 14 (by decide) rfl L1 dX7_digit_1 ?_
  refine lv_iload_n hx hb dX7_digit_4 rfl (lv_at hl 1 rfl) ?_
  refine lv_icmp_ge (tgt := 31) hx hb dX7_digit_5 (by decide) (fun c_1 => ?_) (fun c_1 => ?_)
  · have hf := zx_pos c_1 hf
    refine lv_bipush (v := (-9 : Int32)) hx hb dX7_digit_31 (by decide) ?_
    exact zx_iret hx hb hr hlocks rfl hG hf dX7_digit_33
  · have hf := zx_neg c_1 hf
    refine lv_aload_n hx hb dX7_digit_8 rfl (lv_at hl 0 rfl) ?_
    refine zx_getR (d := 3) hx hb hts hiX7 hown hG shM_0 vc_7 4 (by decide) rfl L2 dX7_digit_9 ?_
    refine lv_aload_n hx hb dX7_digit_12 rfl (lv_at hl 0 rfl) ?_
    refine zx_getI hx hb hts hiX7 hown hG shM_0 vc_7 14 (by decide) rfl L1 dX7_digit_13 ?_
    obtain ⟨g_2, hf⟩ := zx_in hf
    refine zx_ald hx hb hG shM_3 g_2 dX7_digit_16 ?_
    refine lv_bipush (v := (48 : Int32)) hx hb dX7_digit_17 (by decide) ?_
    refine lv_iload_n hx hb dX7_digit_19 rfl (lv_at hl 2 rfl) ?_
    refine lv_iadd hx hb dX7_digit_20 ?_
    refine lv_bipush (v := (48 : Int32)) hx hb dX7_digit_21 (by decide) ?_
    refine lv_iload_n hx hb dX7_digit_23 rfl (lv_at hl 3 rfl) ?_
    refine lv_iadd hx hb dX7_digit_24 ?_
    obtain ⟨r_3, I_3, h_3, hf⟩ := zx_b hf
    refine zx_calli (va_runS (As := [.int (I 3 (I 0 14).toNatClampNeg), .int ((48 : Int32) + x2), .int ((48 : Int32) + x3)]) (rest := []) ⟨hx, hb, hml, hown, hts⟩ (mX7_within l D ad cA (I 3 (I 0 14).toNatClampNeg) ((48 : Int32) + x2) ((48 : Int32) + x3) I r_3 I_3 h_3 _) (va_cwS 3 hts gX7_digit_X7_within rfl rfl rfl hd_X7_within ⟨Nat.le_of_ble_eq_true rfl, Nat.le_of_ble_eq_true rfl⟩) (zx_preS hG) rfl rfl hl.1 rfl (lv_room (Nat.le_of_ble_eq_true rfl)) dX7_digit_25 ⟨Nat.le_refl _, Nat.le_refl _⟩) hG (fun H locs hG => ?_)
    refine lv_if_ne (tgt := 34) hx hb dX7_digit_28 (by decide) (fun c_4 => ?_) (fun c_4 => ?_)
    · have hf := zx_neg c_4 hf
      refine lv_aload_n hx hb dX7_digit_34 rfl (lv_at hl 0 rfl) ?_
      refine lv_dup hx hb dX7_digit_35 rfl ?_
      refine zx_getI hx hb hts hiX7 hown hG shM_0 vc_7 14 (by decide) rfl L1 dX7_digit_36 ?_
      refine lv_iconst (v := (1 : Int32)) hx hb dX7_digit_39 (by decide) ?_
      refine lv_iadd hx hb dX7_digit_40 ?_
      refine zx_putI hx hb hts hiX7 tyX7 tyX7_ok nmX7 hown hG shM_0 vc_7 14 (by decide) rfl L1 rfl (ty := .int) (tyX7_ok 14 (by decide)) rfl rfl dX7_digit_41 (fun H locs hG => ?_)
      refine lv_aload_n hx hb dX7_digit_44 rfl (lv_at hl 0 rfl) ?_
      refine zx_getR (d := 3) hx hb hts hiX7 hown hG shM_0 vc_7 4 (by decide) rfl L2 dX7_digit_45 ?_
      refine lv_aload_n hx hb dX7_digit_48 rfl (lv_at hl 0 rfl) ?_
      refine zx_getI hx hb hts hiX7 hown hG shM_0 vc_7 14 (by decide) rfl L1 dX7_digit_49 ?_
      refine lv_iconst (v := (1 : Int32)) hx hb dX7_digit_52 (by decide) ?_
      refine lv_isub hx hb dX7_digit_53 ?_
      obtain ⟨g_5, hf⟩ := zx_in hf
      refine zx_ald hx hb hG shM_3 g_5 dX7_digit_54 ?_
      refine lv_bipush (v := (48 : Int32)) hx hb dX7_digit_55 (by decide) ?_
      refine lv_isub hx hb dX7_digit_57 ?_
      exact zx_iret hx hb hr hlocks rfl hG hf dX7_digit_58
    · have hf := zx_pos c_4 hf
      refine lv_bipush (v := (-9 : Int32)) hx hb dX7_digit_31 (by decide) ?_
      exact zx_iret hx hb hr hlocks rfl hG hf dX7_digit_33

set_option maxHeartbeats 4000000 in
set_option maxRecDepth 100000 in
theorem mX7_isSign (l : Launch) (D : va_G) (ad : Nat → Nat) (cA : Nat → ClassId) (x1 : Int32) (x2 : Int32) (I : zxI) (r : Int32) (J : zxI) (hf : fX7_isSign x1 x2 I = some (r, J)) (sz : Nat) : Met l yX7_isSign wsX7_isSign { frames := 0, cells := 0, slots := 0, locals := 0 } (va_Pc [.ref (ad 0), .int x1, .int x2] (zxPre D shM ad cA I sz)) (va_Qi (fun (r2 : Int32) (I2 : zxI) => r2 = r ∧ I2 = J) (zxPost D shM ad cA sz) (zxA shM ad sz)) 0 0 (zxA shM ad sz) := by
  refine zx_start (by decide) rfl (Nat.le_of_ble_eq_true rfl) ?_
  intro p e s m args below meth c ls hx hb hr hts hown hlocks hml hG hl
  have hl : lv_has ls 3 [(0, .ref (ad 0)), (1, .int x1), (2, .int x2)] := hl
  have hiX7 : ∀ w ∈ wsX70, w ∈ wsX7_isSign := fun w h => List.mem_cons_of_mem _ (List.mem_append_right _ h)
  have L1 := hts (Cond.fieldLink RX7 71 "GalleryBirdsModel" "at" "I") (List.mem_of_getElem? (i := 1) rfl)
  have L2 := hts (Cond.fieldLink RX7 16 "GalleryBirdsModel" "cells" "[I") (List.mem_of_getElem? (i := 2) rfl)
  unfold fX7_isSign at hf
  refine lv_aload_n hx hb dX7_isSign_0 rfl (lv_at hl 0 rfl) ?_
  refine zx_getI hx hb hts hiX7 hown hG shM_0 vc_7 14 (by decide) rfl L1 dX7_isSign_1 ?_
  refine lv_iload_n hx hb dX7_isSign_4 rfl (lv_at hl 1 rfl) ?_
  refine lv_icmp_ge (tgt := 21) hx hb dX7_isSign_5 (by decide) (fun c_1 => ?_) (fun c_1 => ?_)
  · have hf := zx_pos c_1 hf
    refine lv_iconst (v := (0 : Int32)) hx hb dX7_isSign_21 (by decide) ?_
    exact zx_iret hx hb hr hlocks rfl hG hf dX7_isSign_22
  · have hf := zx_neg c_1 hf
    refine lv_aload_n hx hb dX7_isSign_8 rfl (lv_at hl 0 rfl) ?_
    refine zx_getR (d := 3) hx hb hts hiX7 hown hG shM_0 vc_7 4 (by decide) rfl L2 dX7_isSign_9 ?_
    refine lv_aload_n hx hb dX7_isSign_12 rfl (lv_at hl 0 rfl) ?_
    refine zx_getI hx hb hts hiX7 hown hG shM_0 vc_7 14 (by decide) rfl L1 dX7_isSign_13 ?_
    obtain ⟨g_2, hf⟩ := zx_in hf
    refine zx_ald hx hb hG shM_3 g_2 dX7_isSign_16 ?_
    refine lv_iload_n hx hb dX7_isSign_17 rfl (lv_at hl 2 rfl) ?_
    refine lv_icmp_eq (tgt := 23) hx hb dX7_isSign_18 (by decide) (fun c_3 => ?_) (fun c_3 => ?_)
    · have hf := zx_pos c_3 hf
      refine lv_aload_n hx hb dX7_isSign_23 rfl (lv_at hl 0 rfl) ?_
      refine lv_dup hx hb dX7_isSign_24 rfl ?_
      refine zx_getI hx hb hts hiX7 hown hG shM_0 vc_7 14 (by decide) rfl L1 dX7_isSign_25 ?_
      refine lv_iconst (v := (1 : Int32)) hx hb dX7_isSign_28 (by decide) ?_
      refine lv_iadd hx hb dX7_isSign_29 ?_
      refine zx_putI hx hb hts hiX7 tyX7 tyX7_ok nmX7 hown hG shM_0 vc_7 14 (by decide) rfl L1 rfl (ty := .int) (tyX7_ok 14 (by decide)) rfl rfl dX7_isSign_30 (fun H locs hG => ?_)
      refine lv_iconst (v := (1 : Int32)) hx hb dX7_isSign_33 (by decide) ?_
      exact zx_iret hx hb hr hlocks rfl hG hf dX7_isSign_34
    · have hf := zx_neg c_3 hf
      refine lv_iconst (v := (0 : Int32)) hx hb dX7_isSign_21 (by decide) ?_
      exact zx_iret hx hb hr hlocks rfl hG hf dX7_isSign_22

set_option maxHeartbeats 4000000 in
set_option maxRecDepth 100000 in
theorem mX7_readTheWords (l : Launch) (D : va_G) (ad : Nat → Nat) (cA : Nat → ClassId) (x1 : Int32) (I : zxI) (r : Int32) (J : zxI) (hf : fX7_readTheWords x1 I = some (r, J)) (sz : Nat) : Met l yX7_readTheWords wsX7_readTheWords { frames := 2, cells := 0, slots := 0, locals := 45 } (va_Pc [.ref (ad 0), .int x1] (zxPre D shM ad cA I sz)) (va_Qi (fun (r2 : Int32) (I2 : zxI) => r2 = r ∧ I2 = J) (zxPost D shM ad cA sz) (zxA shM ad sz)) 0 0 (zxA shM ad sz) := by
  refine zx_start (by decide) rfl (Nat.le_of_ble_eq_true rfl) ?_
  intro p e s m args below meth c ls hx hb hr hts hown hlocks hml hG hl
  have hl : lv_has ls 3 [(0, .ref (ad 0)), (1, .int x1)] := hl
  have hiX7 : ∀ w ∈ wsX70, w ∈ wsX7_readTheWords := fun w h => List.mem_cons_of_mem _ (List.mem_append_right _ h)
  have L1 := hts (Cond.fieldLink RX7 95 "GalleryBirdsModel" "readWords" "I") (List.mem_of_getElem? (i := 1) rfl)
  have L2 := hts (Cond.fieldLink RX7 31 "GalleryBirdsModel" "readBad" "[I") (List.mem_of_getElem? (i := 2) rfl)
  unfold fX7_readTheWords at hf
  refine lv_aload_n hx hb dX7_readTheWords_0 rfl (lv_at hl 0 rfl) ?_
  refine lv_iconst (v := (0 : Int32)) hx hb dX7_readTheWords_1 (by decide) ?_
  refine zx_putI hx hb hts hiX7 tyX7 tyX7_ok nmX7 hown hG shM_0 vc_7 15 (by decide) rfl L1 rfl (ty := .int) (tyX7_ok 15 (by decide)) rfl rfl dX7_readTheWords_2 (fun H locs hG => ?_)
  have loop5 : ∀ (n : Nat) (v1 : Int32) (I : zxI) (H : Heap) (locs : List Loc) (ls : Array Slot), fX7_readTheWords_L5 n v1 I = some (r, J) → zxAt D shM ad cA I s sz H locs → lv_has ls 3 [(0, .ref (ad 0)), (1, .int v1)] → W p l e (headSpec wsX7_readTheWords { frames := 2, cells := 0, slots := 0, locals := 45 }).room s m args below meth c H locs 0 0 (MQ below (va_Qi (fun (r2 : Int32) (I2 : zxI) => r2 = r ∧ I2 = J) (zxPost D shM ad cA sz) (zxA shM ad sz)) args s 0 0 (zxA shM ad sz)) (F0 m 5 ls []) := by
    intro n
    induction n with
    | zero =>
      intro v1 I H locs ls hf hG hl
      rw [fX7_readTheWords_L5] at hf
      cases hf
    | succ n5 ih5 =>
      intro v1 I H locs ls hf hG hl
      rw [fX7_readTheWords_L5] at hf
      refine lv_aload_n hx hb dX7_readTheWords_5 rfl (lv_at hl 0 rfl) ?_
      refine zx_getI hx hb hts hiX7 hown hG shM_0 vc_7 15 (by decide) rfl L1 dX7_readTheWords_6 ?_
      refine lv_iconst (v := (4 : Int32)) hx hb dX7_readTheWords_9 (by decide) ?_
      refine lv_icmp_ge (tgt := 64) hx hb dX7_readTheWords_10 (by decide) (fun c_1 => ?_) (fun c_1 => ?_)
      · have hf := zx_pos c_1 hf
        refine lv_iconst (v := (1 : Int32)) hx hb dX7_readTheWords_64 (by decide) ?_
        exact zx_iret hx hb hr hlocks rfl hG hf dX7_readTheWords_65
      · have hf := zx_neg c_1 hf
        refine lv_aload_n hx hb dX7_readTheWords_13 rfl (lv_at hl 0 rfl) ?_
        refine lv_iload_n hx hb dX7_readTheWords_14 rfl (lv_at hl 1 rfl) ?_
        refine lv_iconst (v := (0 : Int32)) hx hb dX7_readTheWords_15 (by decide) ?_
        refine lv_bipush (v := (9 : Int32)) hx hb dX7_readTheWords_16 (by decide) ?_
        obtain ⟨r_2, I_2, h_2, hf⟩ := zx_b hf
        refine zx_calli (va_runV (As := [.int v1, .int (0 : Int32), .int (9 : Int32)]) (rest := []) ⟨hx, hb, hml, hown, hts⟩ (mX7_digit l D ad cA v1 (0 : Int32) (9 : Int32) I r_2 I_2 h_2 _) (cwV 3 hts gX7_readTheWords_X7_digit rfl rfl rfl hd_X7_digit ⟨Nat.le_of_ble_eq_true rfl, Nat.le_of_ble_eq_true rfl⟩) (zx_preV hG shM_0 vc_7) rfl rfl hl.1 rfl (lv_room (Nat.le_of_ble_eq_true rfl)) dX7_readTheWords_18 ⟨Nat.le_refl _, Nat.le_refl _⟩) hG (fun H locs hG => ?_)
        refine lv_istore_n (lv' := [(2, .int r_2), (0, .ref (ad 0)), (1, .int v1)]) hx hb dX7_readTheWords_21 rfl hl (by decide) rfl (fun ls hl => ?_)
        refine lv_iload_n hx hb dX7_readTheWords_22 rfl (lv_at hl 0 rfl) ?_
        refine lv_bipush (v := (-9 : Int32)) hx hb dX7_readTheWords_23 (by decide) ?_
        refine lv_icmp_ne (tgt := 41) hx hb dX7_readTheWords_25 (by decide) (fun c_3 => ?_) (fun c_3 => ?_)
        · have hf := zx_neg c_3 hf
          refine lv_aload_n hx hb dX7_readTheWords_41 rfl (lv_at hl 1 rfl) ?_
          refine zx_getR (d := 8) hx hb hts hiX7 hown hG shM_0 vc_7 17 (by decide) rfl L2 dX7_readTheWords_42 ?_
          refine lv_aload_n hx hb dX7_readTheWords_45 rfl (lv_at hl 1 rfl) ?_
          refine zx_getI hx hb hts hiX7 hown hG shM_0 vc_7 15 (by decide) rfl L1 dX7_readTheWords_46 ?_
          refine lv_iload_n hx hb dX7_readTheWords_49 rfl (lv_at hl 0 rfl) ?_
          obtain ⟨g_4, hf⟩ := zx_in hf
          refine zx_ast hx hb hG shM_8 g_4 dX7_readTheWords_50 (fun H locs hG => ?_)
          refine lv_aload_n hx hb dX7_readTheWords_51 rfl (lv_at hl 1 rfl) ?_
          refine lv_dup hx hb dX7_readTheWords_52 rfl ?_
          refine zx_getI hx hb hts hiX7 hown hG shM_0 vc_7 15 (by decide) rfl L1 dX7_readTheWords_53 ?_
          refine lv_iconst (v := (1 : Int32)) hx hb dX7_readTheWords_56 (by decide) ?_
          refine lv_iadd hx hb dX7_readTheWords_57 ?_
          refine zx_putI hx hb hts hiX7 tyX7 tyX7_ok nmX7 hown hG shM_0 vc_7 15 (by decide) rfl L1 rfl (ty := .int) (tyX7_ok 15 (by decide)) rfl rfl dX7_readTheWords_58 (fun H locs hG => ?_)
          refine lv_goto (tgt := 5) hx hb dX7_readTheWords_61 (by decide) ?_
          exact ih5 v1 (zxU (zxU I_2 8 (I_2 0 15).toNatClampNeg r_2) 0 15 (((zxU I_2 8 (I_2 0 15).toNatClampNeg r_2) 0 15) + (1 : Int32))) _ _ ls hf hG (lv_sub hl [1, 2] rfl)
        · have hf := zx_pos c_3 hf
          refine lv_aload_n hx hb dX7_readTheWords_28 rfl (lv_at hl 1 rfl) ?_
          refine zx_getI hx hb hts hiX7 hown hG shM_0 vc_7 15 (by decide) rfl L1 dX7_readTheWords_29 ?_
          refine lv_if_le (tgt := 39) hx hb dX7_readTheWords_32 (by decide) (fun c_5 => ?_) (fun c_5 => ?_)
          · have hf := zx_pos c_5 hf
            refine lv_iconst (v := (0 : Int32)) hx hb dX7_readTheWords_39 (by decide) ?_
            exact zx_iret hx hb hr hlocks rfl hG hf dX7_readTheWords_40
          · have hf := zx_neg c_5 hf
            refine lv_iconst (v := (1 : Int32)) hx hb dX7_readTheWords_35 (by decide) ?_
            refine lv_goto (tgt := 40) hx hb dX7_readTheWords_36 (by decide) ?_
            exact zx_iret hx hb hr hlocks rfl hG hf dX7_readTheWords_40
  exact loop5 _ x1 (zxU I 0 15 (0 : Int32)) _ _ ls hf hG (lv_sub hl [0, 1] rfl)
