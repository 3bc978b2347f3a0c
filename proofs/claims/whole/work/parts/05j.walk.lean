/-! walks of methods (laid by wip/whole/gen.py) -/
set_option maxHeartbeats 4000000 in
set_option maxRecDepth 100000 in
theorem mX7_copy (l : Launch) (D : va_G) (ad : Nat → Nat) (cA : Nat → ClassId) (x1 : Int32) (x2 : Int32) (x3 : Int32) (x4 : Int32) (x5 : Int32) (I : zxI) (r : Int32) (J : zxI) (hf : fX7_copy x1 x2 x3 x4 x5 I = some (r, J)) (sz : Nat) : Met l yX7_copy wsX7_copy { frames := 2, cells := 0, slots := 0, locals := 42 } (va_Pc [.ref (ad 0), .int x1, .int x2, .int x3, .int x4, .int x5] (zxPre D shM ad cA I sz)) (va_Qi (fun (r2 : Int32) (I2 : zxI) => r2 = r ∧ I2 = J) (zxPost D shM ad cA sz) (zxA shM ad sz)) 0 0 (zxA shM ad sz) := by
  refine zx_start (by decide) rfl (Nat.le_of_ble_eq_true rfl) ?_
  intro p e s m args below meth c ls hx hb hr hts hown hlocks hml hG hl
  have hl : lv_has ls 10 [(0, .ref (ad 0)), (1, .int x1), (2, .int x2), (3, .int x3), (4, .int x4), (5, .int x5)] := hl
  have hiX7 : ∀ w ∈ wsX70, w ∈ wsX7_copy := fun w h => List.mem_cons_of_mem _ (List.mem_append_right _ h)
  have L1 := hts (Cond.fieldLink RX7 55 "GalleryBirdsModel" "fault" "I") (List.mem_of_getElem? (i := 1) rfl)
  have L2 := hts (Cond.fieldLink RX7 9 "GalleryBirdsModel" "sorts" "[I") (List.mem_of_getElem? (i := 2) rfl)
  have L3 := hts (Cond.fieldLink RX7 13 "GalleryBirdsModel" "sheetLong" "[I") (List.mem_of_getElem? (i := 3) rfl)
  have L4 := hts (Cond.fieldLink RX7 16 "GalleryBirdsModel" "cells" "[I") (List.mem_of_getElem? (i := 4) rfl)
  unfold fX7_copy at hf
  refine lv_aload_n hx hb dX7_copy_0 rfl (lv_at hl 0 rfl) ?_
  refine lv_iconst (v := (0 : Int32)) hx hb dX7_copy_1 (by decide) ?_
  refine zx_putI hx hb hts hiX7 tyX7 tyX7_ok nmX7 hown hG shM_0 vc_7 0 (by decide) rfl L1 rfl (ty := .int) (tyX7_ok 0 (by decide)) rfl rfl dX7_copy_2 (fun H locs hG => ?_)
  refine lv_iload_n hx hb dX7_copy_5 rfl (lv_at hl 1 rfl) ?_
  obtain ⟨r_1, I_1, h_1, hf⟩ := zx_b hf
  refine zx_calli (va_runS (As := [.int x1]) (rest := []) ⟨hx, hb, hml, hown, hts⟩ (mX7_isSheet l D ad cA x1 (zxU I 0 0 (0 : Int32)) r_1 I_1 h_1 _) (va_cwS 1 hts gX7_copy_X7_isSheet rfl rfl rfl hd_X7_isSheet ⟨Nat.le_of_ble_eq_true rfl, Nat.le_of_ble_eq_true rfl⟩) (zx_preS hG) rfl rfl hl.1 rfl (lv_room (Nat.le_of_ble_eq_true rfl)) dX7_copy_6 ⟨Nat.le_refl _, Nat.le_refl _⟩) hG (fun H locs hG => ?_)
  refine lv_if_eq (tgt := 19) hx hb dX7_copy_9 (by decide) (fun c_2 => ?_) (fun c_2 => ?_)
  · have hf := zx_pos c_2 hf
    refine lv_iconst (v := (-1 : Int32)) hx hb dX7_copy_19 (by decide) ?_
    exact zx_iret hx hb hr hlocks rfl hG hf dX7_copy_20
  · have hf := zx_neg c_2 hf
    refine lv_iload_n hx hb dX7_copy_12 rfl (lv_at hl 3 rfl) ?_
    obtain ⟨r_3, I_3, h_3, hf⟩ := zx_b hf
    refine zx_calli (va_runS (As := [.int x3]) (rest := []) ⟨hx, hb, hml, hown, hts⟩ (mX7_isSheet l D ad cA x3 I_1 r_3 I_3 h_3 _) (va_cwS 1 hts gX7_copy_X7_isSheet rfl rfl rfl hd_X7_isSheet ⟨Nat.le_of_ble_eq_true rfl, Nat.le_of_ble_eq_true rfl⟩) (zx_preS hG) rfl rfl hl.1 rfl (lv_room (Nat.le_of_ble_eq_true rfl)) dX7_copy_13 ⟨Nat.le_refl _, Nat.le_refl _⟩) hG (fun H locs hG => ?_)
    refine lv_if_ne (tgt := 21) hx hb dX7_copy_16 (by decide) (fun c_4 => ?_) (fun c_4 => ?_)
    · have hf := zx_neg c_4 hf
      refine lv_aload_n hx hb dX7_copy_21 rfl (lv_at hl 0 rfl) ?_
      refine zx_getR (d := 1) hx hb hts hiX7 hown hG shM_0 vc_7 2 (by decide) rfl L2 dX7_copy_22 ?_
      refine lv_iload_n hx hb dX7_copy_25 rfl (lv_at hl 1 rfl) ?_
      obtain ⟨g_5, hf⟩ := zx_in hf
      refine zx_ald hx hb hG shM_1 g_5 dX7_copy_26 ?_
      refine lv_bipush (v := (-9 : Int32)) hx hb dX7_copy_27 (by decide) ?_
      refine lv_icmp_eq (tgt := 43) hx hb dX7_copy_29 (by decide) (fun c_6 => ?_) (fun c_6 => ?_)
      · have hf := zx_pos c_6 hf
        refine lv_aload_n hx hb dX7_copy_43 rfl (lv_at hl 0 rfl) ?_
        refine lv_iconst (v := (1 : Int32)) hx hb dX7_copy_44 (by decide) ?_
        obtain ⟨r_7, I_7, h_7, hf⟩ := zx_b hf
        refine zx_calli (va_runV (As := [.int (1 : Int32)]) (rest := []) ⟨hx, hb, hml, hown, hts⟩ (mX7_fails l D ad cA (1 : Int32) I_3 r_7 I_7 h_7 _) (cwV 1 hts gX7_copy_X7_fails rfl rfl rfl hd_X7_fails ⟨Nat.le_of_ble_eq_true rfl, Nat.le_of_ble_eq_true rfl⟩) (zx_preV hG shM_0 vc_7) rfl rfl hl.1 rfl (lv_room (Nat.le_of_ble_eq_true rfl)) dX7_copy_45 ⟨Nat.le_refl _, Nat.le_refl _⟩) hG (fun H locs hG => ?_)
        exact zx_iret hx hb hr hlocks rfl hG hf dX7_copy_48
      · have hf := zx_neg c_6 hf
        refine lv_aload_n hx hb dX7_copy_32 rfl (lv_at hl 0 rfl) ?_
        refine zx_getR (d := 1) hx hb hts hiX7 hown hG shM_0 vc_7 2 (by decide) rfl L2 dX7_copy_33 ?_
        refine lv_iload_n hx hb dX7_copy_36 rfl (lv_at hl 3 rfl) ?_
        obtain ⟨g_8, hf⟩ := zx_in hf
        refine zx_ald hx hb hG shM_1 g_8 dX7_copy_37 ?_
        refine lv_bipush (v := (-9 : Int32)) hx hb dX7_copy_38 (by decide) ?_
        refine lv_icmp_ne (tgt := 49) hx hb dX7_copy_40 (by decide) (fun c_9 => ?_) (fun c_9 => ?_)
        · have hf := zx_neg c_9 hf
          refine lv_aload_n hx hb dX7_copy_49 rfl (lv_at hl 0 rfl) ?_
          refine zx_getR (d := 1) hx hb hts hiX7 hown hG shM_0 vc_7 2 (by decide) rfl L2 dX7_copy_50 ?_
          refine lv_iload_n hx hb dX7_copy_53 rfl (lv_at hl 1 rfl) ?_
          refine zx_ald hx hb hG shM_1 g_5 dX7_copy_54 ?_
          refine lv_aload_n hx hb dX7_copy_55 rfl (lv_at hl 0 rfl) ?_
          refine zx_getR (d := 1) hx hb hts hiX7 hown hG shM_0 vc_7 2 (by decide) rfl L2 dX7_copy_56 ?_
          refine lv_iload_n hx hb dX7_copy_59 rfl (lv_at hl 3 rfl) ?_
          refine zx_ald hx hb hG shM_1 g_8 dX7_copy_60 ?_
          refine lv_icmp_eq (tgt := 70) hx hb dX7_copy_61 (by decide) (fun c_12 => ?_) (fun c_12 => ?_)
          · have hf := zx_pos c_12 hf
            refine lv_iload_n hx hb dX7_copy_70 rfl (lv_at hl 2 rfl) ?_
            refine lv_if_lt (tgt := 109) hx hb dX7_copy_71 (by decide) (fun c_13 => ?_) (fun c_13 => ?_)
            · have hf := zx_pos c_13 hf
              refine lv_iconst (v := (0 : Int32)) hx hb dX7_copy_109 (by decide) ?_
              refine lv_istore (lv' := [(6, .int (0 : Int32)), (0, .ref (ad 0)), (1, .int x1), (2, .int x2), (3, .int x3), (4, .int x4), (5, .int x5)]) hx hb dX7_copy_110 hl (by decide) rfl (fun ls hl => ?_)
              refine lv_iload hx hb dX7_copy_112 (lv_at hl 0 rfl) ?_
              refine lv_if_eq (tgt := 144) hx hb dX7_copy_114 (by decide) (fun _ => ?_) (fun c_14 => absurd c_14 (by decide))
              refine lv_aload_n hx hb dX7_copy_144 rfl (lv_at hl 1 rfl) ?_
              refine lv_iconst (v := (3 : Int32)) hx hb dX7_copy_145 (by decide) ?_
              obtain ⟨r_15, I_15, h_15, hf⟩ := zx_b hf
              refine zx_calli (va_runV (As := [.int (3 : Int32)]) (rest := []) ⟨hx, hb, hml, hown, hts⟩ (mX7_fails l D ad cA (3 : Int32) I_3 r_15 I_15 h_15 _) (cwV 1 hts gX7_copy_X7_fails rfl rfl rfl hd_X7_fails ⟨Nat.le_of_ble_eq_true rfl, Nat.le_of_ble_eq_true rfl⟩) (zx_preV hG shM_0 vc_7) rfl rfl hl.1 rfl (lv_room (Nat.le_of_ble_eq_true rfl)) dX7_copy_146 ⟨Nat.le_refl _, Nat.le_refl _⟩) hG (fun H locs hG => ?_)
              exact zx_iret hx hb hr hlocks rfl hG hf dX7_copy_149
            · have hf := zx_neg c_13 hf
              refine lv_iload hx hb dX7_copy_74 (lv_at hl 4 rfl) ?_
              refine lv_if_lt (tgt := 109) hx hb dX7_copy_76 (by decide) (fun c_16 => ?_) (fun c_16 => ?_)
              · have hf := zx_pos c_16 hf
                refine lv_iconst (v := (0 : Int32)) hx hb dX7_copy_109 (by decide) ?_
                refine lv_istore (lv' := [(6, .int (0 : Int32)), (0, .ref (ad 0)), (1, .int x1), (2, .int x2), (3, .int x3), (4, .int x4), (5, .int x5)]) hx hb dX7_copy_110 hl (by decide) rfl (fun ls hl => ?_)
                refine lv_iload hx hb dX7_copy_112 (lv_at hl 0 rfl) ?_
                refine lv_if_eq (tgt := 144) hx hb dX7_copy_114 (by decide) (fun _ => ?_) (fun c_17 => absurd c_17 (by decide))
                refine lv_aload_n hx hb dX7_copy_144 rfl (lv_at hl 1 rfl) ?_
                refine lv_iconst (v := (3 : Int32)) hx hb dX7_copy_145 (by decide) ?_
                obtain ⟨r_18, I_18, h_18, hf⟩ := zx_b hf
                refine zx_calli (va_runV (As := [.int (3 : Int32)]) (rest := []) ⟨hx, hb, hml, hown, hts⟩ (mX7_fails l D ad cA (3 : Int32) I_3 r_18 I_18 h_18 _) (cwV 1 hts gX7_copy_X7_fails rfl rfl rfl hd_X7_fails ⟨Nat.le_of_ble_eq_true rfl, Nat.le_of_ble_eq_true rfl⟩) (zx_preV hG shM_0 vc_7) rfl rfl hl.1 rfl (lv_room (Nat.le_of_ble_eq_true rfl)) dX7_copy_146 ⟨Nat.le_refl _, Nat.le_refl _⟩) hG (fun H locs hG => ?_)
                exact zx_iret hx hb hr hlocks rfl hG hf dX7_copy_149
              · have hf := zx_neg c_16 hf
                refine lv_iload hx hb dX7_copy_79 (lv_at hl 5 rfl) ?_
                refine lv_if_lt (tgt := 109) hx hb dX7_copy_81 (by decide) (fun c_19 => ?_) (fun c_19 => ?_)
                · have hf := zx_pos c_19 hf
                  refine lv_iconst (v := (0 : Int32)) hx hb dX7_copy_109 (by decide) ?_
                  refine lv_istore (lv' := [(6, .int (0 : Int32)), (0, .ref (ad 0)), (1, .int x1), (2, .int x2), (3, .int x3), (4, .int x4), (5, .int x5)]) hx hb dX7_copy_110 hl (by decide) rfl (fun ls hl => ?_)
                  refine lv_iload hx hb dX7_copy_112 (lv_at hl 0 rfl) ?_
                  refine lv_if_eq (tgt := 144) hx hb dX7_copy_114 (by decide) (fun _ => ?_) (fun c_20 => absurd c_20 (by decide))
                  refine lv_aload_n hx hb dX7_copy_144 rfl (lv_at hl 1 rfl) ?_
                  refine lv_iconst (v := (3 : Int32)) hx hb dX7_copy_145 (by decide) ?_
                  obtain ⟨r_21, I_21, h_21, hf⟩ := zx_b hf
                  refine zx_calli (va_runV (As := [.int (3 : Int32)]) (rest := []) ⟨hx, hb, hml, hown, hts⟩ (mX7_fails l D ad cA (3 : Int32) I_3 r_21 I_21 h_21 _) (cwV 1 hts gX7_copy_X7_fails rfl rfl rfl hd_X7_fails ⟨Nat.le_of_ble_eq_true rfl, Nat.le_of_ble_eq_true rfl⟩) (zx_preV hG shM_0 vc_7) rfl rfl hl.1 rfl (lv_room (Nat.le_of_ble_eq_true rfl)) dX7_copy_146 ⟨Nat.le_refl _, Nat.le_refl _⟩) hG (fun H locs hG => ?_)
                  exact zx_iret hx hb hr hlocks rfl hG hf dX7_copy_149
                · have hf := zx_neg c_19 hf
                  refine lv_iload_n hx hb dX7_copy_84 rfl (lv_at hl 2 rfl) ?_
                  refine lv_aload_n hx hb dX7_copy_85 rfl (lv_at hl 0 rfl) ?_
                  refine zx_getR (d := 2) hx hb hts hiX7 hown hG shM_0 vc_7 3 (by decide) rfl L3 dX7_copy_86 ?_
                  refine lv_iload_n hx hb dX7_copy_89 rfl (lv_at hl 1 rfl) ?_
                  refine zx_ald hx hb hG shM_2 g_5 dX7_copy_90 ?_
                  refine lv_icmp_gt (tgt := 109) hx hb dX7_copy_91 (by decide) (fun c_23 => ?_) (fun c_23 => ?_)
                  · have hf := zx_pos c_23 hf
                    refine lv_iconst (v := (0 : Int32)) hx hb dX7_copy_109 (by decide) ?_
                    refine lv_istore (lv' := [(6, .int (0 : Int32)), (0, .ref (ad 0)), (1, .int x1), (2, .int x2), (3, .int x3), (4, .int x4), (5, .int x5)]) hx hb dX7_copy_110 hl (by decide) rfl (fun ls hl => ?_)
                    refine lv_iload hx hb dX7_copy_112 (lv_at hl 0 rfl) ?_
                    refine lv_if_eq (tgt := 144) hx hb dX7_copy_114 (by decide) (fun _ => ?_) (fun c_24 => absurd c_24 (by decide))
                    refine lv_aload_n hx hb dX7_copy_144 rfl (lv_at hl 1 rfl) ?_
                    refine lv_iconst (v := (3 : Int32)) hx hb dX7_copy_145 (by decide) ?_
                    obtain ⟨r_25, I_25, h_25, hf⟩ := zx_b hf
                    refine zx_calli (va_runV (As := [.int (3 : Int32)]) (rest := []) ⟨hx, hb, hml, hown, hts⟩ (mX7_fails l D ad cA (3 : Int32) I_3 r_25 I_25 h_25 _) (cwV 1 hts gX7_copy_X7_fails rfl rfl rfl hd_X7_fails ⟨Nat.le_of_ble_eq_true rfl, Nat.le_of_ble_eq_true rfl⟩) (zx_preV hG shM_0 vc_7) rfl rfl hl.1 rfl (lv_room (Nat.le_of_ble_eq_true rfl)) dX7_copy_146 ⟨Nat.le_refl _, Nat.le_refl _⟩) hG (fun H locs hG => ?_)
                    exact zx_iret hx hb hr hlocks rfl hG hf dX7_copy_149
                  · have hf := zx_neg c_23 hf
                    refine lv_iload hx hb dX7_copy_94 (lv_at hl 4 rfl) ?_
                    refine lv_aload_n hx hb dX7_copy_96 rfl (lv_at hl 0 rfl) ?_
                    refine zx_getR (d := 2) hx hb hts hiX7 hown hG shM_0 vc_7 3 (by decide) rfl L3 dX7_copy_97 ?_
                    refine lv_iload_n hx hb dX7_copy_100 rfl (lv_at hl 3 rfl) ?_
                    refine zx_ald hx hb hG shM_2 g_8 dX7_copy_101 ?_
                    refine lv_icmp_gt (tgt := 109) hx hb dX7_copy_102 (by decide) (fun c_27 => ?_) (fun c_27 => ?_)
                    · have hf := zx_pos c_27 hf
                      refine lv_iconst (v := (0 : Int32)) hx hb dX7_copy_109 (by decide) ?_
                      refine lv_istore (lv' := [(6, .int (0 : Int32)), (0, .ref (ad 0)), (1, .int x1), (2, .int x2), (3, .int x3), (4, .int x4), (5, .int x5)]) hx hb dX7_copy_110 hl (by decide) rfl (fun ls hl => ?_)
                      refine lv_iload hx hb dX7_copy_112 (lv_at hl 0 rfl) ?_
                      refine lv_if_eq (tgt := 144) hx hb dX7_copy_114 (by decide) (fun _ => ?_) (fun c_28 => absurd c_28 (by decide))
                      refine lv_aload_n hx hb dX7_copy_144 rfl (lv_at hl 1 rfl) ?_
                      refine lv_iconst (v := (3 : Int32)) hx hb dX7_copy_145 (by decide) ?_
                      obtain ⟨r_29, I_29, h_29, hf⟩ := zx_b hf
                      refine zx_calli (va_runV (As := [.int (3 : Int32)]) (rest := []) ⟨hx, hb, hml, hown, hts⟩ (mX7_fails l D ad cA (3 : Int32) I_3 r_29 I_29 h_29 _) (cwV 1 hts gX7_copy_X7_fails rfl rfl rfl hd_X7_fails ⟨Nat.le_of_ble_eq_true rfl, Nat.le_of_ble_eq_true rfl⟩) (zx_preV hG shM_0 vc_7) rfl rfl hl.1 rfl (lv_room (Nat.le_of_ble_eq_true rfl)) dX7_copy_146 ⟨Nat.le_refl _, Nat.le_refl _⟩) hG (fun H locs hG => ?_)
                      exact zx_iret hx hb hr hlocks rfl hG hf dX7_copy_149
                    · have hf := zx_neg c_27 hf
                      refine lv_iconst (v := (1 : Int32)) hx hb dX7_copy_105 (by decide) ?_
                      refine lv_goto (tgt := 110) hx hb dX7_copy_106 (by decide) ?_
                      refine lv_istore (lv' := [(6, .int (1 : Int32)), (0, .ref (ad 0)), (1, .int x1), (2, .int x2), (3, .int x3), (4, .int x4), (5, .int x5)]) hx hb dX7_copy_110 hl (by decide) rfl (fun ls hl => ?_)
                      refine lv_iload hx hb dX7_copy_112 (lv_at hl 0 rfl) ?_
                      refine lv_if_eq (tgt := 144) hx hb dX7_copy_114 (by decide) (fun c_30 => absurd c_30 (by decide)) (fun _ => ?_)
                      refine lv_iload hx hb dX7_copy_117 (lv_at hl 6 rfl) ?_
                      refine lv_aload_n hx hb dX7_copy_119 rfl (lv_at hl 1 rfl) ?_
                      refine zx_getR (d := 2) hx hb hts hiX7 hown hG shM_0 vc_7 3 (by decide) rfl L3 dX7_copy_120 ?_
                      refine lv_iload_n hx hb dX7_copy_123 rfl (lv_at hl 2 rfl) ?_
                      refine zx_ald hx hb hG shM_2 g_5 dX7_copy_124 ?_
                      refine lv_iload_n hx hb dX7_copy_125 rfl (lv_at hl 3 rfl) ?_
                      refine lv_isub hx hb dX7_copy_126 ?_
                      refine lv_icmp_gt (tgt := 144) hx hb dX7_copy_127 (by decide) (fun c_32 => ?_) (fun c_32 => ?_)
                      · have hf := zx_pos c_32 hf
                        refine lv_aload_n hx hb dX7_copy_144 rfl (lv_at hl 1 rfl) ?_
                        refine lv_iconst (v := (3 : Int32)) hx hb dX7_copy_145 (by decide) ?_
                        obtain ⟨r_33, I_33, h_33, hf⟩ := zx_b hf
                        refine zx_calli (va_runV (As := [.int (3 : Int32)]) (rest := []) ⟨hx, hb, hml, hown, hts⟩ (mX7_fails l D ad cA (3 : Int32) I_3 r_33 I_33 h_33 _) (cwV 1 hts gX7_copy_X7_fails rfl rfl rfl hd_X7_fails ⟨Nat.le_of_ble_eq_true rfl, Nat.le_of_ble_eq_true rfl⟩) (zx_preV hG shM_0 vc_7) rfl rfl hl.1 rfl (lv_room (Nat.le_of_ble_eq_true rfl)) dX7_copy_146 ⟨Nat.le_refl _, Nat.le_refl _⟩) hG (fun H locs hG => ?_)
                        exact zx_iret hx hb hr hlocks rfl hG hf dX7_copy_149
                      · have hf := zx_neg c_32 hf
                        refine lv_iload hx hb dX7_copy_130 (lv_at hl 6 rfl) ?_
                        refine lv_aload_n hx hb dX7_copy_132 rfl (lv_at hl 1 rfl) ?_
                        refine zx_getR (d := 2) hx hb hts hiX7 hown hG shM_0 vc_7 3 (by decide) rfl L3 dX7_copy_133 ?_
                        refine lv_iload_n hx hb dX7_copy_136 rfl (lv_at hl 4 rfl) ?_
                        refine zx_ald hx hb hG shM_2 g_8 dX7_copy_137 ?_
                        refine lv_iload hx hb dX7_copy_138 (lv_at hl 5 rfl) ?_
                        refine lv_isub hx hb dX7_copy_140 ?_
                        refine lv_icmp_le (tgt := 150) hx hb dX7_copy_141 (by decide) (fun c_35 => ?_) (fun c_35 => ?_)
                        · have hf := zx_pos c_35 hf
                          refine lv_iload_n hx hb dX7_copy_150 rfl (lv_at hl 3 rfl) ?_
                          refine lv_iload hx hb dX7_copy_151 (lv_at hl 5 rfl) ?_
                          refine lv_icmp_ge (tgt := 160) hx hb dX7_copy_153 (by decide) (fun c_36 => ?_) (fun c_36 => ?_)
                          · have hf := zx_pos c_36 hf
                            refine lv_iconst (v := (0 : Int32)) hx hb dX7_copy_160 (by decide) ?_
                            refine lv_istore (lv' := [(7, .int (0 : Int32)), (6, .int (1 : Int32)), (0, .ref (ad 0)), (1, .int x1), (2, .int x2), (3, .int x3), (4, .int x4), (5, .int x5)]) hx hb dX7_copy_161 hl (by decide) rfl (fun ls hl => ?_)
                            refine lv_iconst (v := (0 : Int32)) hx hb dX7_copy_163 (by decide) ?_
                            refine lv_istore (lv' := [(8, .int (0 : Int32)), (7, .int (0 : Int32)), (6, .int (1 : Int32)), (0, .ref (ad 0)), (1, .int x1), (2, .int x2), (3, .int x3), (4, .int x4), (5, .int x5)]) hx hb dX7_copy_164 hl (by decide) rfl (fun ls hl => ?_)
                            have loop166 : ∀ (n : Nat) (v1 : Int32) (v2 : Int32) (v3 : Int32) (v4 : Int32) (v5 : Int32) (v7 : Int32) (v8 : Int32) (I : zxI) (H : Heap) (locs : List Loc) (ls : Array Slot), fX7_copy_L166 n v1 v2 v3 v4 v5 v7 v8 I = some (r, J) → zxAt D shM ad cA I s sz H locs → lv_has ls 10 [(0, .ref (ad 0)), (1, .int v1), (2, .int v2), (3, .int v3), (4, .int v4), (5, .int v5), (7, .int v7), (8, .int v8)] → W p l e (headSpec wsX7_copy { frames := 2, cells := 0, slots := 0, locals := 42 }).room s m args below meth c H locs 0 0 (MQ below (va_Qi (fun (r2 : Int32) (I2 : zxI) => r2 = r ∧ I2 = J) (zxPost D shM ad cA sz) (zxA shM ad sz)) args s 0 0 (zxA shM ad sz)) (F0 m 166 ls []) := by
                              intro n
                              induction n with
                              | zero =>
                                intro v1 v2 v3 v4 v5 v7 v8 I H locs ls hf hG hl
                                rw [fX7_copy_L166] at hf
                                cases hf
                              | succ n166 ih166 =>
                                intro v1 v2 v3 v4 v5 v7 v8 I H locs ls hf hG hl
                                rw [fX7_copy_L166] at hf
                                refine lv_iload hx hb dX7_copy_166 (lv_at hl 7 rfl) ?_
                                refine lv_iload hx hb dX7_copy_168 (lv_at hl 5 rfl) ?_
                                refine lv_icmp_ge (tgt := 227) hx hb dX7_copy_170 (by decide) (fun c_37 => ?_) (fun c_37 => ?_)
                                · have hf := zx_pos c_37 hf
                                  refine lv_iload hx hb dX7_copy_227 (lv_at hl 5 rfl) ?_
                                  exact zx_iret hx hb hr hlocks rfl hG hf dX7_copy_229
                                · have hf := zx_neg c_37 hf
                                  refine lv_iload hx hb dX7_copy_173 (lv_at hl 6 rfl) ?_
                                  refine lv_if_eq (tgt := 188) hx hb dX7_copy_175 (by decide) (fun c_38 => ?_) (fun c_38 => ?_)
                                  · have hf := zx_pos c_38 hf
                                    refine lv_iload hx hb dX7_copy_188 (lv_at hl 7 rfl) ?_
                                    refine lv_istore (lv' := [(9, .int v8), (0, .ref (ad 0)), (1, .int v1), (2, .int v2), (3, .int v3), (4, .int v4), (5, .int v5), (7, .int v7), (8, .int v8)]) hx hb dX7_copy_190 hl (by decide) rfl (fun ls hl => ?_)
                                    refine lv_aload_n hx hb dX7_copy_192 rfl (lv_at hl 1 rfl) ?_
                                    refine zx_getR (d := 3) hx hb hts hiX7 hown hG shM_0 vc_7 4 (by decide) rfl L4 dX7_copy_193 ?_
                                    refine lv_bipush (v := (60 : Int32)) hx hb dX7_copy_196 (by decide) ?_
                                    refine lv_iload_n hx hb dX7_copy_198 rfl (lv_at hl 4 rfl) ?_
                                    refine lv_imul hx hb dX7_copy_199 ?_
                                    refine lv_iload hx hb dX7_copy_200 (lv_at hl 5 rfl) ?_
                                    refine lv_iadd hx hb dX7_copy_202 ?_
                                    refine lv_iload hx hb dX7_copy_203 (lv_at hl 0 rfl) ?_
                                    refine lv_iadd hx hb dX7_copy_205 ?_
                                    refine lv_aload_n hx hb dX7_copy_206 rfl (lv_at hl 1 rfl) ?_
                                    refine zx_getR (d := 3) hx hb hts hiX7 hown hG shM_0 vc_7 4 (by decide) rfl L4 dX7_copy_207 ?_
                                    refine lv_bipush (v := (60 : Int32)) hx hb dX7_copy_210 (by decide) ?_
                                    refine lv_iload_n hx hb dX7_copy_212 rfl (lv_at hl 2 rfl) ?_
                                    refine lv_imul hx hb dX7_copy_213 ?_
                                    refine lv_iload_n hx hb dX7_copy_214 rfl (lv_at hl 3 rfl) ?_
                                    refine lv_iadd hx hb dX7_copy_215 ?_
                                    refine lv_iload hx hb dX7_copy_216 (lv_at hl 0 rfl) ?_
                                    refine lv_iadd hx hb dX7_copy_218 ?_
                                    obtain ⟨g_39, hf⟩ := zx_in hf
                                    refine zx_ald hx hb hG shM_3 g_39 dX7_copy_219 ?_
                                    obtain ⟨g_40, hf⟩ := zx_in hf
                                    refine zx_ast hx hb hG shM_3 g_40 dX7_copy_220 (fun H locs hG => ?_)
                                    refine lv_iinc (v := (v8 + (1 : Int32))) (lv' := [(8, .int (v8 + (1 : Int32))), (9, .int v8), (0, .ref (ad 0)), (1, .int v1), (2, .int v2), (3, .int v3), (4, .int v4), (5, .int v5), (7, .int v7)]) hx hb dX7_copy_221 hl (k := 8) rfl (congrArg (HAdd.hAdd v8) (by decide)) (by decide) rfl (fun ls hl => ?_)
                                    refine lv_goto (tgt := 166) hx hb dX7_copy_224 (by decide) ?_
                                    exact ih166 v1 v2 v3 v4 v5 v7 (v8 + (1 : Int32)) (zxU I 3 ((((60 : Int32) * v3) + v4) + v8).toNatClampNeg (I 3 ((((60 : Int32) * v1) + v2) + v8).toNatClampNeg)) _ _ ls hf hG (lv_sub hl [2, 3, 4, 5, 6, 7, 8, 0] rfl)
                                  · have hf := zx_neg c_38 hf
                                    refine lv_iload hx hb dX7_copy_178 (lv_at hl 5 rfl) ?_
                                    refine lv_iconst (v := (1 : Int32)) hx hb dX7_copy_180 (by decide) ?_
                                    refine lv_isub hx hb dX7_copy_181 ?_
                                    refine lv_iload hx hb dX7_copy_182 (lv_at hl 7 rfl) ?_
                                    refine lv_isub hx hb dX7_copy_184 ?_
                                    refine lv_goto (tgt := 190) hx hb dX7_copy_185 (by decide) ?_
                                    refine lv_istore (lv' := [(9, .int ((v5 - (1 : Int32)) - v8)), (0, .ref (ad 0)), (1, .int v1), (2, .int v2), (3, .int v3), (4, .int v4), (5, .int v5), (7, .int v7), (8, .int v8)]) hx hb dX7_copy_190 hl (by decide) rfl (fun ls hl => ?_)
                                    refine lv_aload_n hx hb dX7_copy_192 rfl (lv_at hl 1 rfl) ?_
                                    refine zx_getR (d := 3) hx hb hts hiX7 hown hG shM_0 vc_7 4 (by decide) rfl L4 dX7_copy_193 ?_
                                    refine lv_bipush (v := (60 : Int32)) hx hb dX7_copy_196 (by decide) ?_
                                    refine lv_iload_n hx hb dX7_copy_198 rfl (lv_at hl 4 rfl) ?_
                                    refine lv_imul hx hb dX7_copy_199 ?_
                                    refine lv_iload hx hb dX7_copy_200 (lv_at hl 5 rfl) ?_
                                    refine lv_iadd hx hb dX7_copy_202 ?_
                                    refine lv_iload hx hb dX7_copy_203 (lv_at hl 0 rfl) ?_
                                    refine lv_iadd hx hb dX7_copy_205 ?_
                                    refine lv_aload_n hx hb dX7_copy_206 rfl (lv_at hl 1 rfl) ?_
                                    refine zx_getR (d := 3) hx hb hts hiX7 hown hG shM_0 vc_7 4 (by decide) rfl L4 dX7_copy_207 ?_
                                    refine lv_bipush (v := (60 : Int32)) hx hb dX7_copy_210 (by decide) ?_
                                    refine lv_iload_n hx hb dX7_copy_212 rfl (lv_at hl 2 rfl) ?_
                                    refine lv_imul hx hb dX7_copy_213 ?_
                                    refine lv_iload_n hx hb dX7_copy_214 rfl (lv_at hl 3 rfl) ?_
                                    refine lv_iadd hx hb dX7_copy_215 ?_
                                    refine lv_iload hx hb dX7_copy_216 (lv_at hl 0 rfl) ?_
                                    refine lv_iadd hx hb dX7_copy_218 ?_
                                    obtain ⟨g_41, hf⟩ := zx_in hf
                                    refine zx_ald hx hb hG shM_3 g_41 dX7_copy_219 ?_
                                    obtain ⟨g_42, hf⟩ := zx_in hf
                                    refine zx_ast hx hb hG shM_3 g_42 dX7_copy_220 (fun H locs hG => ?_)
                                    refine lv_iinc (v := (v8 + (1 : Int32))) (lv' := [(8, .int (v8 + (1 : Int32))), (9, .int ((v5 - (1 : Int32)) - v8)), (0, .ref (ad 0)), (1, .int v1), (2, .int v2), (3, .int v3), (4, .int v4), (5, .int v5), (7, .int v7)]) hx hb dX7_copy_221 hl (k := 8) rfl (congrArg (HAdd.hAdd v8) (by decide)) (by decide) rfl (fun ls hl => ?_)
                                    refine lv_goto (tgt := 166) hx hb dX7_copy_224 (by decide) ?_
                                    exact ih166 v1 v2 v3 v4 v5 v7 (v8 + (1 : Int32)) (zxU I 3 ((((60 : Int32) * v3) + v4) + ((v5 - (1 : Int32)) - v8)).toNatClampNeg (I 3 ((((60 : Int32) * v1) + v2) + ((v5 - (1 : Int32)) - v8)).toNatClampNeg)) _ _ ls hf hG (lv_sub hl [2, 3, 4, 5, 6, 7, 8, 0] rfl)
                            exact loop166 _ x1 x2 x3 x4 x5 (0 : Int32) (0 : Int32) I_3 _ _ ls hf hG (lv_sub hl [3, 4, 5, 6, 7, 8, 1, 0] rfl)
                          · have hf := zx_neg c_36 hf
                            refine lv_iconst (v := (1 : Int32)) hx hb dX7_copy_156 (by decide) ?_
                            refine lv_goto (tgt := 161) hx hb dX7_copy_157 (by decide) ?_
                            refine lv_istore (lv' := [(7, .int (1 : Int32)), (6, .int (1 : Int32)), (0, .ref (ad 0)), (1, .int x1), (2, .int x2), (3, .int x3), (4, .int x4), (5, .int x5)]) hx hb dX7_copy_161 hl (by decide) rfl (fun ls hl => ?_)
                            refine lv_iconst (v := (0 : Int32)) hx hb dX7_copy_163 (by decide) ?_
                            refine lv_istore (lv' := [(8, .int (0 : Int32)), (7, .int (1 : Int32)), (6, .int (1 : Int32)), (0, .ref (ad 0)), (1, .int x1), (2, .int x2), (3, .int x3), (4, .int x4), (5, .int x5)]) hx hb dX7_copy_164 hl (by decide) rfl (fun ls hl => ?_)
                            have loop166 : ∀ (n : Nat) (v1 : Int32) (v2 : Int32) (v3 : Int32) (v4 : Int32) (v5 : Int32) (v7 : Int32) (v8 : Int32) (I : zxI) (H : Heap) (locs : List Loc) (ls : Array Slot), fX7_copy_L166 n v1 v2 v3 v4 v5 v7 v8 I = some (r, J) → zxAt D shM ad cA I s sz H locs → lv_has ls 10 [(0, .ref (ad 0)), (1, .int v1), (2, .int v2), (3, .int v3), (4, .int v4), (5, .int v5), (7, .int v7), (8, .int v8)] → W p l e (headSpec wsX7_copy { frames := 2, cells := 0, slots := 0, locals := 42 }).room s m args below meth c H locs 0 0 (MQ below (va_Qi (fun (r2 : Int32) (I2 : zxI) => r2 = r ∧ I2 = J) (zxPost D shM ad cA sz) (zxA shM ad sz)) args s 0 0 (zxA shM ad sz)) (F0 m 166 ls []) := by
                              intro n
                              induction n with
                              | zero =>
                                intro v1 v2 v3 v4 v5 v7 v8 I H locs ls hf hG hl
                                rw [fX7_copy_L166] at hf
                                cases hf
                              | succ n166 ih166 =>
                                intro v1 v2 v3 v4 v5 v7 v8 I H locs ls hf hG hl
                                rw [fX7_copy_L166] at hf
                                refine lv_iload hx hb dX7_copy_166 (lv_at hl 7 rfl) ?_
                                refine lv_iload hx hb dX7_copy_168 (lv_at hl 5 rfl) ?_
                                refine lv_icmp_ge (tgt := 227) hx hb dX7_copy_170 (by decide) (fun c_43 => ?_) (fun c_43 => ?_)
                                · have hf := zx_pos c_43 hf
                                  refine lv_iload hx hb dX7_copy_227 (lv_at hl 5 rfl) ?_
                                  exact zx_iret hx hb hr hlocks rfl hG hf dX7_copy_229
                                · have hf := zx_neg c_43 hf
                                  refine lv_iload hx hb dX7_copy_173 (lv_at hl 6 rfl) ?_
                                  refine lv_if_eq (tgt := 188) hx hb dX7_copy_175 (by decide) (fun c_44 => ?_) (fun c_44 => ?_)
                                  · have hf := zx_pos c_44 hf
                                    refine lv_iload hx hb dX7_copy_188 (lv_at hl 7 rfl) ?_
                                    refine lv_istore (lv' := [(9, .int v8), (0, .ref (ad 0)), (1, .int v1), (2, .int v2), (3, .int v3), (4, .int v4), (5, .int v5), (7, .int v7), (8, .int v8)]) hx hb dX7_copy_190 hl (by decide) rfl (fun ls hl => ?_)
                                    refine lv_aload_n hx hb dX7_copy_192 rfl (lv_at hl 1 rfl) ?_
                                    refine zx_getR (d := 3) hx hb hts hiX7 hown hG shM_0 vc_7 4 (by decide) rfl L4 dX7_copy_193 ?_
                                    refine lv_bipush (v := (60 : Int32)) hx hb dX7_copy_196 (by decide) ?_
                                    refine lv_iload_n hx hb dX7_copy_198 rfl (lv_at hl 4 rfl) ?_
                                    refine lv_imul hx hb dX7_copy_199 ?_
                                    refine lv_iload hx hb dX7_copy_200 (lv_at hl 5 rfl) ?_
                                    refine lv_iadd hx hb dX7_copy_202 ?_
                                    refine lv_iload hx hb dX7_copy_203 (lv_at hl 0 rfl) ?_
                                    refine lv_iadd hx hb dX7_copy_205 ?_
                                    refine lv_aload_n hx hb dX7_copy_206 rfl (lv_at hl 1 rfl) ?_
                                    refine zx_getR (d := 3) hx hb hts hiX7 hown hG shM_0 vc_7 4 (by decide) rfl L4 dX7_copy_207 ?_
                                    refine lv_bipush (v := (60 : Int32)) hx hb dX7_copy_210 (by decide) ?_
                                    refine lv_iload_n hx hb dX7_copy_212 rfl (lv_at hl 2 rfl) ?_
                                    refine lv_imul hx hb dX7_copy_213 ?_
                                    refine lv_iload_n hx hb dX7_copy_214 rfl (lv_at hl 3 rfl) ?_
                                    refine lv_iadd hx hb dX7_copy_215 ?_
                                    refine lv_iload hx hb dX7_copy_216 (lv_at hl 0 rfl) ?_
                                    refine lv_iadd hx hb dX7_copy_218 ?_
                                    obtain ⟨g_45, hf⟩ := zx_in hf
                                    refine zx_ald hx hb hG shM_3 g_45 dX7_copy_219 ?_
                                    obtain ⟨g_46, hf⟩ := zx_in hf
                                    refine zx_ast hx hb hG shM_3 g_46 dX7_copy_220 (fun H locs hG => ?_)
                                    refine lv_iinc (v := (v8 + (1 : Int32))) (lv' := [(8, .int (v8 + (1 : Int32))), (9, .int v8), (0, .ref (ad 0)), (1, .int v1), (2, .int v2), (3, .int v3), (4, .int v4), (5, .int v5), (7, .int v7)]) hx hb dX7_copy_221 hl (k := 8) rfl (congrArg (HAdd.hAdd v8) (by decide)) (by decide) rfl (fun ls hl => ?_)
                                    refine lv_goto (tgt := 166) hx hb dX7_copy_224 (by decide) ?_
                                    exact ih166 v1 v2 v3 v4 v5 v7 (v8 + (1 : Int32)) (zxU I 3 ((((60 : Int32) * v3) + v4) + v8).toNatClampNeg (I 3 ((((60 : Int32) * v1) + v2) + v8).toNatClampNeg)) _ _ ls hf hG (lv_sub hl [2, 3, 4, 5, 6, 7, 8, 0] rfl)
                                  · have hf := zx_neg c_44 hf
                                    refine lv_iload hx hb dX7_copy_178 (lv_at hl 5 rfl) ?_
                                    refine lv_iconst (v := (1 : Int32)) hx hb dX7_copy_180 (by decide) ?_
                                    refine lv_isub hx hb dX7_copy_181 ?_
                                    refine lv_iload hx hb dX7_copy_182 (lv_at hl 7 rfl) ?_
                                    refine lv_isub hx hb dX7_copy_184 ?_
                                    refine lv_goto (tgt := 190) hx hb dX7_copy_185 (by decide) ?_
                                    refine lv_istore (lv' := [(9, .int ((v5 - (1 : Int32)) - v8)), (0, .ref (ad 0)), (1, .int v1), (2, .int v2), (3, .int v3), (4, .int v4), (5, .int v5), (7, .int v7), (8, .int v8)]) hx hb dX7_copy_190 hl (by decide) rfl (fun ls hl => ?_)
                                    refine lv_aload_n hx hb dX7_copy_192 rfl (lv_at hl 1 rfl) ?_
                                    refine zx_getR (d := 3) hx hb hts hiX7 hown hG shM_0 vc_7 4 (by decide) rfl L4 dX7_copy_193 ?_
                                    refine lv_bipush (v := (60 : Int32)) hx hb dX7_copy_196 (by decide) ?_
                                    refine lv_iload_n hx hb dX7_copy_198 rfl (lv_at hl 4 rfl) ?_
                                    refine lv_imul hx hb dX7_copy_199 ?_
                                    refine lv_iload hx hb dX7_copy_200 (lv_at hl 5 rfl) ?_
                                    refine lv_iadd hx hb dX7_copy_202 ?_
                                    refine lv_iload hx hb dX7_copy_203 (lv_at hl 0 rfl) ?_
                                    refine lv_iadd hx hb dX7_copy_205 ?_
                                    refine lv_aload_n hx hb dX7_copy_206 rfl (lv_at hl 1 rfl) ?_
                                    refine zx_getR (d := 3) hx hb hts hiX7 hown hG shM_0 vc_7 4 (by decide) rfl L4 dX7_copy_207 ?_
                                    refine lv_bipush (v := (60 : Int32)) hx hb dX7_copy_210 (by decide) ?_
                                    refine lv_iload_n hx hb dX7_copy_212 rfl (lv_at hl 2 rfl) ?_
                                    refine lv_imul hx hb dX7_copy_213 ?_
                                    refine lv_iload_n hx hb dX7_copy_214 rfl (lv_at hl 3 rfl) ?_
                                    refine lv_iadd hx hb dX7_copy_215 ?_
                                    refine lv_iload hx hb dX7_copy_216 (lv_at hl 0 rfl) ?_
                                    refine lv_iadd hx hb dX7_copy_218 ?_
                                    obtain ⟨g_47, hf⟩ := zx_in hf
                                    refine zx_ald hx hb hG shM_3 g_47 dX7_copy_219 ?_
                                    obtain ⟨g_48, hf⟩ := zx_in hf
                                    refine zx_ast hx hb hG shM_3 g_48 dX7_copy_220 (fun H locs hG => ?_)
                                    refine lv_iinc (v := (v8 + (1 : Int32))) (lv' := [(8, .int (v8 + (1 : Int32))), (9, .int ((v5 - (1 : Int32)) - v8)), (0, .ref (ad 0)), (1, .int v1), (2, .int v2), (3, .int v3), (4, .int v4), (5, .int v5), (7, .int v7)]) hx hb dX7_copy_221 hl (k := 8) rfl (congrArg (HAdd.hAdd v8) (by decide)) (by decide) rfl (fun ls hl => ?_)
                                    refine lv_goto (tgt := 166) hx hb dX7_copy_224 (by decide) ?_
                                    exact ih166 v1 v2 v3 v4 v5 v7 (v8 + (1 : Int32)) (zxU I 3 ((((60 : Int32) * v3) + v4) + ((v5 - (1 : Int32)) - v8)).toNatClampNeg (I 3 ((((60 : Int32) * v1) + v2) + ((v5 - (1 : Int32)) - v8)).toNatClampNeg)) _ _ ls hf hG (lv_sub hl [2, 3, 4, 5, 6, 7, 8, 0] rfl)
                            exact loop166 _ x1 x2 x3 x4 x5 (1 : Int32) (0 : Int32) I_3 _ _ ls hf hG (lv_sub hl [3, 4, 5, 6, 7, 8, 1, 0] rfl)
                        · have hf := zx_neg c_35 hf
                          refine lv_aload_n hx hb dX7_copy_144 rfl (lv_at hl 1 rfl) ?_
                          refine lv_iconst (v := (3 : Int32)) hx hb dX7_copy_145 (by decide) ?_
                          obtain ⟨r_49, I_49, h_49, hf⟩ := zx_b hf
                          refine zx_calli (va_runV (As := [.int (3 : Int32)]) (rest := []) ⟨hx, hb, hml, hown, hts⟩ (mX7_fails l D ad cA (3 : Int32) I_3 r_49 I_49 h_49 _) (cwV 1 hts gX7_copy_X7_fails rfl rfl rfl hd_X7_fails ⟨Nat.le_of_ble_eq_true rfl, Nat.le_of_ble_eq_true rfl⟩) (zx_preV hG shM_0 vc_7) rfl rfl hl.1 rfl (lv_room (Nat.le_of_ble_eq_true rfl)) dX7_copy_146 ⟨Nat.le_refl _, Nat.le_refl _⟩) hG (fun H locs hG => ?_)
                          exact zx_iret hx hb hr hlocks rfl hG hf dX7_copy_149
          · have hf := zx_neg c_12 hf
            refine lv_aload_n hx hb dX7_copy_64 rfl (lv_at hl 0 rfl) ?_
            refine lv_iconst (v := (2 : Int32)) hx hb dX7_copy_65 (by decide) ?_
            obtain ⟨r_50, I_50, h_50, hf⟩ := zx_b hf
            refine zx_calli (va_runV (As := [.int (2 : Int32)]) (rest := []) ⟨hx, hb, hml, hown, hts⟩ (mX7_fails l D ad cA (2 : Int32) I_3 r_50 I_50 h_50 _) (cwV 1 hts gX7_copy_X7_fails rfl rfl rfl hd_X7_fails ⟨Nat.le_of_ble_eq_true rfl, Nat.le_of_ble_eq_true rfl⟩) (zx_preV hG shM_0 vc_7) rfl rfl hl.1 rfl (lv_room (Nat.le_of_ble_eq_true rfl)) dX7_copy_66 ⟨Nat.le_refl _, Nat.le_refl _⟩) hG (fun H locs hG => ?_)
            exact zx_iret hx hb hr hlocks rfl hG hf dX7_copy_69
        · have hf := zx_pos c_9 hf
          refine lv_aload_n hx hb dX7_copy_43 rfl (lv_at hl 0 rfl) ?_
          refine lv_iconst (v := (1 : Int32)) hx hb dX7_copy_44 (by decide) ?_
          obtain ⟨r_51, I_51, h_51, hf⟩ := zx_b hf
          refine zx_calli (va_runV (As := [.int (1 : Int32)]) (rest := []) ⟨hx, hb, hml, hown, hts⟩ (mX7_fails l D ad cA (1 : Int32) I_3 r_51 I_51 h_51 _) (cwV 1 hts gX7_copy_X7_fails rfl rfl rfl hd_X7_fails ⟨Nat.le_of_ble_eq_true rfl, Nat.le_of_ble_eq_true rfl⟩) (zx_preV hG shM_0 vc_7) rfl rfl hl.1 rfl (lv_room (Nat.le_of_ble_eq_true rfl)) dX7_copy_45 ⟨Nat.le_refl _, Nat.le_refl _⟩) hG (fun H locs hG => ?_)
          exact zx_iret hx hb hr hlocks rfl hG hf dX7_copy_48
    · have hf := zx_pos c_4 hf
      refine lv_iconst (v := (-1 : Int32)) hx hb dX7_copy_19 (by decide) ?_
      exact zx_iret hx hb hr hlocks rfl hG hf dX7_copy_20

set_option maxHeartbeats 4000000 in
set_option maxRecDepth 100000 in
theorem mX7_begins (l : Launch) (D : va_G) (ad : Nat → Nat) (cA : Nat → ClassId) (x1 : Int32) (I : zxI) (J : zxI) (hf : fX7_begins x1 I = some J) (sz : Nat) : Met l yX7_begins wsX7_begins { frames := 0, cells := 0, slots := 0, locals := 0 } (va_Pc [.ref (ad 0), .int x1] (zxPre D shM ad cA I sz)) (va_Qv (fun (I2 : zxI) => I2 = J) (zxPost D shM ad cA sz) (zxA shM ad sz)) 0 0 (zxA shM ad sz) := by
  refine zx_start (by decide) rfl (Nat.le_of_ble_eq_true rfl) ?_
  intro p e s m args below meth c ls hx hb hr hts hown hlocks hml hG hl
  have hl : lv_has ls 2 [(0, .ref (ad 0)), (1, .int x1)] := hl
  have hiX7 : ∀ w ∈ wsX70, w ∈ wsX7_begins := fun w h => List.mem_cons_of_mem _ (List.mem_append_right _ h)
  have L1 := hts (Cond.fieldLink RX7 218 "GalleryBirdsModel" "trace" "I") (List.mem_of_getElem? (i := 1) rfl)
  unfold fX7_begins at hf
  refine lv_aload_n hx hb dX7_begins_0 rfl (lv_at hl 0 rfl) ?_
  refine lv_bipush (v := (31 : Int32)) hx hb dX7_begins_1 (by decide) ?_
  refine lv_aload_n hx hb dX7_begins_3 rfl (lv_at hl 0 rfl) ?_
  refine zx_getI hx hb hts hiX7 hown hG shM_0 vc_7 1 (by decide) rfl L1 dX7_begins_4 ?_
  refine lv_imul hx hb dX7_begins_7 ?_
  refine lv_iload_n hx hb dX7_begins_8 rfl (lv_at hl 1 rfl) ?_
  refine lv_iadd hx hb dX7_begins_9 ?_
  refine zx_putI hx hb hts hiX7 tyX7 tyX7_ok nmX7 hown hG shM_0 vc_7 1 (by decide) rfl L1 rfl (ty := .int) (tyX7_ok 1 (by decide)) rfl rfl dX7_begins_10 (fun H locs hG => ?_)
  exact zx_vret hx hb hr hlocks hG hf dX7_begins_13

set_option maxHeartbeats 4000000 in
set_option maxRecDepth 100000 in
theorem mX7_tell (l : Launch) (D : va_G) (ad : Nat → Nat) (cA : Nat → ClassId) (x1 : Int32) (I : zxI) (r : Int32) (J : zxI) (hf : fX7_tell x1 I = some (r, J)) (sz : Nat) : Met l yX7_tell wsX7_tell { frames := 1, cells := 0, slots := 0, locals := 21 } (va_Pc [.ref (ad 0), .int x1] (zxPre D shM ad cA I sz)) (va_Qi (fun (r2 : Int32) (I2 : zxI) => r2 = r ∧ I2 = J) (zxPost D shM ad cA sz) (zxA shM ad sz)) 0 0 (zxA shM ad sz) := by
  refine zx_start (by decide) rfl (Nat.le_of_ble_eq_true rfl) ?_
  intro p e s m args below meth c ls hx hb hr hts hown hlocks hml hG hl
  have hl : lv_has ls 3 [(0, .ref (ad 0)), (1, .int x1)] := hl
  have hiX7 : ∀ w ∈ wsX70, w ∈ wsX7_tell := fun w h => List.mem_cons_of_mem _ (List.mem_append_right _ h)
  have L1 := hts (Cond.fieldLink RX7 28 "GalleryBirdsModel" "strength" "[I") (List.mem_of_getElem? (i := 1) rfl)
  have L2 := hts (Cond.fieldLink RX7 22 "GalleryBirdsModel" "kind" "[I") (List.mem_of_getElem? (i := 2) rfl)
  unfold fX7_tell at hf
  refine lv_aload_n hx hb dX7_tell_0 rfl (lv_at hl 0 rfl) ?_
  refine lv_iload_n hx hb dX7_tell_1 rfl (lv_at hl 1 rfl) ?_
  obtain ⟨r_1, I_1, h_1, hf⟩ := zx_b hf
  refine zx_calli (va_runV (As := [.int x1]) (rest := []) ⟨hx, hb, hml, hown, hts⟩ (mX7_isGallery l D ad cA x1 I r_1 I_1 h_1 _) (cwV 1 hts gX7_tell_X7_isGallery rfl rfl rfl hd_X7_isGallery ⟨Nat.le_of_ble_eq_true rfl, Nat.le_of_ble_eq_true rfl⟩) (zx_preV hG shM_0 vc_7) rfl rfl hl.1 rfl (lv_room (Nat.le_of_ble_eq_true rfl)) dX7_tell_2 ⟨Nat.le_refl _, Nat.le_refl _⟩) hG (fun H locs hG => ?_)
  refine lv_if_ne (tgt := 10) hx hb dX7_tell_5 (by decide) (fun c_2 => ?_) (fun c_2 => ?_)
  · have hf := zx_neg c_2 hf
    refine lv_aload_n hx hb dX7_tell_10 rfl (lv_at hl 0 rfl) ?_
    refine zx_getR (d := 7) hx hb hts hiX7 hown hG shM_0 vc_7 13 (by decide) rfl L1 dX7_tell_11 ?_
    refine lv_iload_n hx hb dX7_tell_14 rfl (lv_at hl 1 rfl) ?_
    obtain ⟨g_3, hf⟩ := zx_in hf
    refine zx_ald hx hb hG shM_7 g_3 dX7_tell_15 ?_
    refine lv_istore_n (lv' := [(2, .int (I_1 7 x1.toNatClampNeg)), (0, .ref (ad 0)), (1, .int x1)]) hx hb dX7_tell_16 rfl hl (by decide) rfl (fun ls hl => ?_)
    refine lv_aload_n hx hb dX7_tell_17 rfl (lv_at hl 1 rfl) ?_
    refine zx_getR (d := 5) hx hb hts hiX7 hown hG shM_0 vc_7 11 (by decide) rfl L2 dX7_tell_18 ?_
    refine lv_iload_n hx hb dX7_tell_21 rfl (lv_at hl 2 rfl) ?_
    refine zx_ald hx hb hG shM_5 g_3 dX7_tell_22 ?_
    by_cases c_5 : (I_1 5 x1.toNatClampNeg) = (1 : Int32)
    · have hf := zx_pos c_5 hf
      refine lv_lookup (off := 25) (tgt := 48) hx hb dX7_tell_23 (by decide) (by rw [c_5]; decide) (by decide) ?_
      refine lv_aload_n hx hb dX7_tell_48 rfl (lv_at hl 1 rfl) ?_
      refine lv_iconst (v := (2 : Int32)) hx hb dX7_tell_49 (by decide) ?_
      obtain ⟨I_7, h_7, hf⟩ := zx_v hf
      refine zx_callv (va_runV (As := [.int (2 : Int32)]) (rest := []) ⟨hx, hb, hml, hown, hts⟩ (mX7_begins l D ad cA (2 : Int32) I_1 I_7 h_7 _) (cwV 1 hts gX7_tell_X7_begins rfl rfl rfl hd_X7_begins ⟨Nat.le_of_ble_eq_true rfl, Nat.le_of_ble_eq_true rfl⟩) (zx_preV hG shM_0 vc_7) rfl rfl hl.1 rfl (lv_room (Nat.le_of_ble_eq_true rfl)) dX7_tell_50 ⟨Nat.le_refl _, Nat.le_refl _⟩) hG (fun H locs hG => ?_)
      refine lv_aload_n hx hb dX7_tell_53 rfl (lv_at hl 1 rfl) ?_
      refine lv_iconst (v := (1 : Int32)) hx hb dX7_tell_54 (by decide) ?_
      obtain ⟨I_8, h_8, hf⟩ := zx_v hf
      refine zx_callv (va_runV (As := [.int (1 : Int32)]) (rest := []) ⟨hx, hb, hml, hown, hts⟩ (mX7_begins l D ad cA (1 : Int32) I_7 I_8 h_8 _) (cwV 1 hts gX7_tell_X7_begins rfl rfl rfl hd_X7_begins ⟨Nat.le_of_ble_eq_true rfl, Nat.le_of_ble_eq_true rfl⟩) (zx_preV hG shM_0 vc_7) rfl rfl hl.1 rfl (lv_room (Nat.le_of_ble_eq_true rfl)) dX7_tell_55 ⟨Nat.le_refl _, Nat.le_refl _⟩) hG (fun H locs hG => ?_)
      refine lv_iload_n hx hb dX7_tell_58 rfl (lv_at hl 0 rfl) ?_
      refine lv_bipush (v := (100 : Int32)) hx hb dX7_tell_59 (by decide) ?_
      refine lv_iadd hx hb dX7_tell_61 ?_
      exact zx_iret hx hb hr hlocks rfl hG hf dX7_tell_62
    have hf := zx_neg c_5 hf
    by_cases c_6 : (I_1 5 x1.toNatClampNeg) = (2 : Int32)
    · have hf := zx_pos c_6 hf
      refine lv_lookup (off := 40) (tgt := 63) hx hb dX7_tell_23 (by decide) (by rw [c_6]; decide) (by decide) ?_
      refine lv_aload_n hx hb dX7_tell_63 rfl (lv_at hl 1 rfl) ?_
      refine lv_iconst (v := (3 : Int32)) hx hb dX7_tell_64 (by decide) ?_
      obtain ⟨I_9, h_9, hf⟩ := zx_v hf
      refine zx_callv (va_runV (As := [.int (3 : Int32)]) (rest := []) ⟨hx, hb, hml, hown, hts⟩ (mX7_begins l D ad cA (3 : Int32) I_1 I_9 h_9 _) (cwV 1 hts gX7_tell_X7_begins rfl rfl rfl hd_X7_begins ⟨Nat.le_of_ble_eq_true rfl, Nat.le_of_ble_eq_true rfl⟩) (zx_preV hG shM_0 vc_7) rfl rfl hl.1 rfl (lv_room (Nat.le_of_ble_eq_true rfl)) dX7_tell_65 ⟨Nat.le_refl _, Nat.le_refl _⟩) hG (fun H locs hG => ?_)
      refine lv_aload_n hx hb dX7_tell_68 rfl (lv_at hl 1 rfl) ?_
      refine lv_iconst (v := (2 : Int32)) hx hb dX7_tell_69 (by decide) ?_
      obtain ⟨I_10, h_10, hf⟩ := zx_v hf
      refine zx_callv (va_runV (As := [.int (2 : Int32)]) (rest := []) ⟨hx, hb, hml, hown, hts⟩ (mX7_begins l D ad cA (2 : Int32) I_9 I_10 h_10 _) (cwV 1 hts gX7_tell_X7_begins rfl rfl rfl hd_X7_begins ⟨Nat.le_of_ble_eq_true rfl, Nat.le_of_ble_eq_true rfl⟩) (zx_preV hG shM_0 vc_7) rfl rfl hl.1 rfl (lv_room (Nat.le_of_ble_eq_true rfl)) dX7_tell_70 ⟨Nat.le_refl _, Nat.le_refl _⟩) hG (fun H locs hG => ?_)
      refine lv_aload_n hx hb dX7_tell_73 rfl (lv_at hl 1 rfl) ?_
      refine lv_iconst (v := (1 : Int32)) hx hb dX7_tell_74 (by decide) ?_
      obtain ⟨I_11, h_11, hf⟩ := zx_v hf
      refine zx_callv (va_runV (As := [.int (1 : Int32)]) (rest := []) ⟨hx, hb, hml, hown, hts⟩ (mX7_begins l D ad cA (1 : Int32) I_10 I_11 h_11 _) (cwV 1 hts gX7_tell_X7_begins rfl rfl rfl hd_X7_begins ⟨Nat.le_of_ble_eq_true rfl, Nat.le_of_ble_eq_true rfl⟩) (zx_preV hG shM_0 vc_7) rfl rfl hl.1 rfl (lv_room (Nat.le_of_ble_eq_true rfl)) dX7_tell_75 ⟨Nat.le_refl _, Nat.le_refl _⟩) hG (fun H locs hG => ?_)
      refine lv_aload_n hx hb dX7_tell_78 rfl (lv_at hl 1 rfl) ?_
      refine lv_iconst (v := (1 : Int32)) hx hb dX7_tell_79 (by decide) ?_
      obtain ⟨I_12, h_12, hf⟩ := zx_v hf
      refine zx_callv (va_runV (As := [.int (1 : Int32)]) (rest := []) ⟨hx, hb, hml, hown, hts⟩ (mX7_begins l D ad cA (1 : Int32) I_11 I_12 h_12 _) (cwV 1 hts gX7_tell_X7_begins rfl rfl rfl hd_X7_begins ⟨Nat.le_of_ble_eq_true rfl, Nat.le_of_ble_eq_true rfl⟩) (zx_preV hG shM_0 vc_7) rfl rfl hl.1 rfl (lv_room (Nat.le_of_ble_eq_true rfl)) dX7_tell_80 ⟨Nat.le_refl _, Nat.le_refl _⟩) hG (fun H locs hG => ?_)
      refine lv_iconst (v := (2 : Int32)) hx hb dX7_tell_83 (by decide) ?_
      refine lv_iload_n hx hb dX7_tell_84 rfl (lv_at hl 0 rfl) ?_
      refine lv_imul hx hb dX7_tell_85 ?_
      refine lv_bipush (v := (100 : Int32)) hx hb dX7_tell_86 (by decide) ?_
      refine lv_iadd hx hb dX7_tell_88 ?_
      exact zx_iret hx hb hr hlocks rfl hG hf dX7_tell_89
    have hf := zx_neg c_6 hf
    refine lv_lookup (off := 67) (tgt := 90) hx hb dX7_tell_23 (by decide) (zx_lk1 (zx_neI (by decide) c_5) (zx_lk1 (zx_neI (by decide) c_6) (zx_lk0))) (by decide) ?_
    refine lv_aload_n hx hb dX7_tell_90 rfl (lv_at hl 1 rfl) ?_
    refine lv_iconst (v := (1 : Int32)) hx hb dX7_tell_91 (by decide) ?_
    obtain ⟨I_13, h_13, hf⟩ := zx_v hf
    refine zx_callv (va_runV (As := [.int (1 : Int32)]) (rest := []) ⟨hx, hb, hml, hown, hts⟩ (mX7_begins l D ad cA (1 : Int32) I_1 I_13 h_13 _) (cwV 1 hts gX7_tell_X7_begins rfl rfl rfl hd_X7_begins ⟨Nat.le_of_ble_eq_true rfl, Nat.le_of_ble_eq_true rfl⟩) (zx_preV hG shM_0 vc_7) rfl rfl hl.1 rfl (lv_room (Nat.le_of_ble_eq_true rfl)) dX7_tell_92 ⟨Nat.le_refl _, Nat.le_refl _⟩) hG (fun H locs hG => ?_)
    refine lv_iload_n hx hb dX7_tell_95 rfl (lv_at hl 0 rfl) ?_
    exact zx_iret hx hb hr hlocks rfl hG hf dX7_tell_96
  · have hf := zx_pos c_2 hf
    refine lv_iconst (v := (-1 : Int32)) hx hb dX7_tell_8 (by decide) ?_
    exact zx_iret hx hb hr hlocks rfl hG hf dX7_tell_9

set_option maxHeartbeats 4000000 in
set_option maxRecDepth 100000 in
theorem mX7_sign (l : Launch) (D : va_G) (ad : Nat → Nat) (cA : Nat → ClassId) (x1 : Int32) (I : zxI) (r : Int32) (J : zxI) (hf : fX7_sign x1 I = some (r, J)) (sz : Nat) : Met l yX7_sign wsX7_sign { frames := 1, cells := 0, slots := 0, locals := 21 } (va_Pc [.ref (ad 0), .int x1] (zxPre D shM ad cA I sz)) (va_Qi (fun (r2 : Int32) (I2 : zxI) => r2 = r ∧ I2 = J) (zxPost D shM ad cA sz) (zxA shM ad sz)) 0 0 (zxA shM ad sz) := by
  refine zx_start (by decide) rfl (Nat.le_of_ble_eq_true rfl) ?_
  intro p e s m args below meth c ls hx hb hr hts hown hlocks hml hG hl
  have hl : lv_has ls 2 [(0, .ref (ad 0)), (1, .int x1)] := hl
  have hiX7 : ∀ w ∈ wsX70, w ∈ wsX7_sign := fun w h => List.mem_cons_of_mem _ (List.mem_append_right _ h)
  have L1 := hts (Cond.fieldLink RX7 22 "GalleryBirdsModel" "kind" "[I") (List.mem_of_getElem? (i := 1) rfl)
  unfold fX7_sign at hf
  refine lv_aload_n hx hb dX7_sign_0 rfl (lv_at hl 0 rfl) ?_
  refine lv_iload_n hx hb dX7_sign_1 rfl (lv_at hl 1 rfl) ?_
  obtain ⟨r_1, I_1, h_1, hf⟩ := zx_b hf
  refine zx_calli (va_runV (As := [.int x1]) (rest := []) ⟨hx, hb, hml, hown, hts⟩ (mX7_isGallery l D ad cA x1 I r_1 I_1 h_1 _) (cwV 1 hts gX7_sign_X7_isGallery rfl rfl rfl hd_X7_isGallery ⟨Nat.le_of_ble_eq_true rfl, Nat.le_of_ble_eq_true rfl⟩) (zx_preV hG shM_0 vc_7) rfl rfl hl.1 rfl (lv_room (Nat.le_of_ble_eq_true rfl)) dX7_sign_2 ⟨Nat.le_refl _, Nat.le_refl _⟩) hG (fun H locs hG => ?_)
  refine lv_if_ne (tgt := 10) hx hb dX7_sign_5 (by decide) (fun c_2 => ?_) (fun c_2 => ?_)
  · have hf := zx_neg c_2 hf
    refine lv_aload_n hx hb dX7_sign_10 rfl (lv_at hl 0 rfl) ?_
    refine lv_aload_n hx hb dX7_sign_11 rfl (lv_at hl 0 rfl) ?_
    refine zx_getR (d := 5) hx hb hts hiX7 hown hG shM_0 vc_7 11 (by decide) rfl L1 dX7_sign_12 ?_
    refine lv_iload_n hx hb dX7_sign_15 rfl (lv_at hl 1 rfl) ?_
    obtain ⟨g_3, hf⟩ := zx_in hf
    refine zx_ald hx hb hG shM_5 g_3 dX7_sign_16 ?_
    refine lv_iconst (v := (2 : Int32)) hx hb dX7_sign_17 (by decide) ?_
    refine lv_icmp_ne (tgt := 25) hx hb dX7_sign_18 (by decide) (fun c_4 => ?_) (fun c_4 => ?_)
    · have hf := zx_neg c_4 hf
      refine lv_iconst (v := (4 : Int32)) hx hb dX7_sign_25 (by decide) ?_
      obtain ⟨I_5, h_5, hf⟩ := zx_v hf
      refine zx_callv (va_runV (As := [.int (4 : Int32)]) (rest := []) ⟨hx, hb, hml, hown, hts⟩ (mX7_begins l D ad cA (4 : Int32) I_1 I_5 h_5 _) (cwV 1 hts gX7_sign_X7_begins rfl rfl rfl hd_X7_begins ⟨Nat.le_of_ble_eq_true rfl, Nat.le_of_ble_eq_true rfl⟩) (zx_preV hG shM_0 vc_7) rfl rfl hl.1 rfl (lv_room (Nat.le_of_ble_eq_true rfl)) dX7_sign_26 ⟨Nat.le_refl _, Nat.le_refl _⟩) hG (fun H locs hG => ?_)
      refine lv_aload_n hx hb dX7_sign_29 rfl (lv_at hl 0 rfl) ?_
      refine zx_getR (d := 5) hx hb hts hiX7 hown hG shM_0 vc_7 11 (by decide) rfl L1 dX7_sign_30 ?_
      refine lv_iload_n hx hb dX7_sign_33 rfl (lv_at hl 1 rfl) ?_
      refine zx_ald hx hb hG shM_5 g_3 dX7_sign_34 ?_
      refine lv_iconst (v := (2 : Int32)) hx hb dX7_sign_35 (by decide) ?_
      refine lv_icmp_ne (tgt := 44) hx hb dX7_sign_36 (by decide) (fun c_7 => ?_) (fun c_7 => ?_)
      · have hf := zx_neg c_7 hf
        refine lv_iload_n hx hb dX7_sign_44 rfl (lv_at hl 1 rfl) ?_
        exact zx_iret hx hb hr hlocks rfl hG hf dX7_sign_45
      · have hf := zx_pos c_7 hf
        refine lv_bipush (v := (50 : Int32)) hx hb dX7_sign_39 (by decide) ?_
        refine lv_goto (tgt := 45) hx hb dX7_sign_41 (by decide) ?_
        exact zx_iret hx hb hr hlocks rfl hG hf dX7_sign_45
    · have hf := zx_pos c_4 hf
      refine lv_iconst (v := (5 : Int32)) hx hb dX7_sign_21 (by decide) ?_
      refine lv_goto (tgt := 26) hx hb dX7_sign_22 (by decide) ?_
      obtain ⟨I_8, h_8, hf⟩ := zx_v hf
      refine zx_callv (va_runV (As := [.int (5 : Int32)]) (rest := []) ⟨hx, hb, hml, hown, hts⟩ (mX7_begins l D ad cA (5 : Int32) I_1 I_8 h_8 _) (cwV 1 hts gX7_sign_X7_begins rfl rfl rfl hd_X7_begins ⟨Nat.le_of_ble_eq_true rfl, Nat.le_of_ble_eq_true rfl⟩) (zx_preV hG shM_0 vc_7) rfl rfl hl.1 rfl (lv_room (Nat.le_of_ble_eq_true rfl)) dX7_sign_26 ⟨Nat.le_refl _, Nat.le_refl _⟩) hG (fun H locs hG => ?_)
      refine lv_aload_n hx hb dX7_sign_29 rfl (lv_at hl 0 rfl) ?_
      refine zx_getR (d := 5) hx hb hts hiX7 hown hG shM_0 vc_7 11 (by decide) rfl L1 dX7_sign_30 ?_
      refine lv_iload_n hx hb dX7_sign_33 rfl (lv_at hl 1 rfl) ?_
      refine zx_ald hx hb hG shM_5 g_3 dX7_sign_34 ?_
      refine lv_iconst (v := (2 : Int32)) hx hb dX7_sign_35 (by decide) ?_
      refine lv_icmp_ne (tgt := 44) hx hb dX7_sign_36 (by decide) (fun c_10 => ?_) (fun c_10 => ?_)
      · have hf := zx_neg c_10 hf
        refine lv_iload_n hx hb dX7_sign_44 rfl (lv_at hl 1 rfl) ?_
        exact zx_iret hx hb hr hlocks rfl hG hf dX7_sign_45
      · have hf := zx_pos c_10 hf
        refine lv_bipush (v := (50 : Int32)) hx hb dX7_sign_39 (by decide) ?_
        refine lv_goto (tgt := 45) hx hb dX7_sign_41 (by decide) ?_
        exact zx_iret hx hb hr hlocks rfl hG hf dX7_sign_45
  · have hf := zx_pos c_2 hf
    refine lv_iconst (v := (-1 : Int32)) hx hb dX7_sign_8 (by decide) ?_
    exact zx_iret hx hb hr hlocks rfl hG hf dX7_sign_9

set_option maxHeartbeats 4000000 in
set_option maxRecDepth 100000 in
theorem mX7_as (l : Launch) (D : va_G) (ad : Nat → Nat) (cA : Nat → ClassId) (x1 : Int32) (x2 : Int32) (I : zxI) (r : Int32) (J : zxI) (hf : fX7_as x1 x2 I = some (r, J)) (sz : Nat) : Met l yX7_as wsX7_as { frames := 1, cells := 0, slots := 0, locals := 22 } (va_Pc [.ref (ad 0), .int x1, .int x2] (zxPre D shM ad cA I sz)) (va_Qi (fun (r2 : Int32) (I2 : zxI) => r2 = r ∧ I2 = J) (zxPost D shM ad cA sz) (zxA shM ad sz)) 0 0 (zxA shM ad sz) := by
  refine zx_start (by decide) rfl (Nat.le_of_ble_eq_true rfl) ?_
  intro p e s m args below meth c ls hx hb hr hts hown hlocks hml hG hl
  have hl : lv_has ls 3 [(0, .ref (ad 0)), (1, .int x1), (2, .int x2)] := hl
  have hiX7 : ∀ w ∈ wsX70, w ∈ wsX7_as := fun w h => List.mem_cons_of_mem _ (List.mem_append_right _ h)
  have L1 := hts (Cond.fieldLink RX7 55 "GalleryBirdsModel" "fault" "I") (List.mem_of_getElem? (i := 1) rfl)
  have L2 := hts (Cond.fieldLink RX7 22 "GalleryBirdsModel" "kind" "[I") (List.mem_of_getElem? (i := 2) rfl)
  unfold fX7_as at hf
  refine lv_aload_n hx hb dX7_as_0 rfl (lv_at hl 0 rfl) ?_
  refine lv_iconst (v := (0 : Int32)) hx hb dX7_as_1 (by decide) ?_
  refine zx_putI hx hb hts hiX7 tyX7 tyX7_ok nmX7 hown hG shM_0 vc_7 0 (by decide) rfl L1 rfl (ty := .int) (tyX7_ok 0 (by decide)) rfl rfl dX7_as_2 (fun H locs hG => ?_)
  refine lv_aload_n hx hb dX7_as_5 rfl (lv_at hl 0 rfl) ?_
  refine lv_iload_n hx hb dX7_as_6 rfl (lv_at hl 1 rfl) ?_
  obtain ⟨r_1, I_1, h_1, hf⟩ := zx_b hf
  refine zx_calli (va_runV (As := [.int x1]) (rest := []) ⟨hx, hb, hml, hown, hts⟩ (mX7_isGallery l D ad cA x1 (zxU I 0 0 (0 : Int32)) r_1 I_1 h_1 _) (cwV 1 hts gX7_as_X7_isGallery rfl rfl rfl hd_X7_isGallery ⟨Nat.le_of_ble_eq_true rfl, Nat.le_of_ble_eq_true rfl⟩) (zx_preV hG shM_0 vc_7) rfl rfl hl.1 rfl (lv_room (Nat.le_of_ble_eq_true rfl)) dX7_as_7 ⟨Nat.le_refl _, Nat.le_refl _⟩) hG (fun H locs hG => ?_)
  refine lv_if_ne (tgt := 15) hx hb dX7_as_10 (by decide) (fun c_2 => ?_) (fun c_2 => ?_)
  · have hf := zx_neg c_2 hf
    refine lv_iload_n hx hb dX7_as_15 rfl (lv_at hl 2 rfl) ?_
    refine lv_iconst (v := (0 : Int32)) hx hb dX7_as_16 (by decide) ?_
    refine lv_iconst (v := (2 : Int32)) hx hb dX7_as_17 (by decide) ?_
    obtain ⟨r_3, I_3, h_3, hf⟩ := zx_b hf
    refine zx_calli (va_runS (As := [.int x2, .int (0 : Int32), .int (2 : Int32)]) (rest := []) ⟨hx, hb, hml, hown, hts⟩ (mX7_within l D ad cA x2 (0 : Int32) (2 : Int32) I_1 r_3 I_3 h_3 _) (va_cwS 3 hts gX7_as_X7_within rfl rfl rfl hd_X7_within ⟨Nat.le_of_ble_eq_true rfl, Nat.le_of_ble_eq_true rfl⟩) (zx_preS hG) rfl rfl hl.1 rfl (lv_room (Nat.le_of_ble_eq_true rfl)) dX7_as_18 ⟨Nat.le_refl _, Nat.le_refl _⟩) hG (fun H locs hG => ?_)
    refine lv_if_ne (tgt := 27) hx hb dX7_as_21 (by decide) (fun c_4 => ?_) (fun c_4 => ?_)
    · have hf := zx_neg c_4 hf
      refine lv_aload_n hx hb dX7_as_27 rfl (lv_at hl 0 rfl) ?_
      refine zx_getR (d := 5) hx hb hts hiX7 hown hG shM_0 vc_7 11 (by decide) rfl L2 dX7_as_28 ?_
      refine lv_iload_n hx hb dX7_as_31 rfl (lv_at hl 1 rfl) ?_
      obtain ⟨g_5, hf⟩ := zx_in hf
      refine zx_ald hx hb hG shM_5 g_5 dX7_as_32 ?_
      refine lv_iload_n hx hb dX7_as_33 rfl (lv_at hl 2 rfl) ?_
      refine lv_icmp_lt (tgt := 41) hx hb dX7_as_34 (by decide) (fun c_6 => ?_) (fun c_6 => ?_)
      · have hf := zx_pos c_6 hf
        refine lv_aload_n hx hb dX7_as_41 rfl (lv_at hl 0 rfl) ?_
        refine lv_iconst (v := (2 : Int32)) hx hb dX7_as_42 (by decide) ?_
        obtain ⟨r_7, I_7, h_7, hf⟩ := zx_b hf
        refine zx_calli (va_runV (As := [.int (2 : Int32)]) (rest := []) ⟨hx, hb, hml, hown, hts⟩ (mX7_fails l D ad cA (2 : Int32) I_3 r_7 I_7 h_7 _) (cwV 1 hts gX7_as_X7_fails rfl rfl rfl hd_X7_fails ⟨Nat.le_of_ble_eq_true rfl, Nat.le_of_ble_eq_true rfl⟩) (zx_preV hG shM_0 vc_7) rfl rfl hl.1 rfl (lv_room (Nat.le_of_ble_eq_true rfl)) dX7_as_43 ⟨Nat.le_refl _, Nat.le_refl _⟩) hG (fun H locs hG => ?_)
        exact zx_iret hx hb hr hlocks rfl hG hf dX7_as_46
      · have hf := zx_neg c_6 hf
        refine lv_iconst (v := (1 : Int32)) hx hb dX7_as_37 (by decide) ?_
        refine lv_goto (tgt := 46) hx hb dX7_as_38 (by decide) ?_
        exact zx_iret hx hb hr hlocks rfl hG hf dX7_as_46
    · have hf := zx_pos c_4 hf
      refine lv_bipush (v := (-2 : Int32)) hx hb dX7_as_24 (by decide) ?_
      exact zx_iret hx hb hr hlocks rfl hG hf dX7_as_26
  · have hf := zx_pos c_2 hf
    refine lv_iconst (v := (-1 : Int32)) hx hb dX7_as_13 (by decide) ?_
    exact zx_iret hx hb hr hlocks rfl hG hf dX7_as_14

set_option maxHeartbeats 4000000 in
set_option maxRecDepth 100000 in
theorem mX7_trace (l : Launch) (D : va_G) (ad : Nat → Nat) (cA : Nat → ClassId) (I : zxI) (r : Int32) (J : zxI) (hf : fX7_trace I = some (r, J)) (sz : Nat) : Met l yX7_trace wsX7_trace { frames := 0, cells := 0, slots := 0, locals := 0 } (va_Pc [.ref (ad 0)] (zxPre D shM ad cA I sz)) (va_Qi (fun (r2 : Int32) (I2 : zxI) => r2 = r ∧ I2 = J) (zxPost D shM ad cA sz) (zxA shM ad sz)) 0 0 (zxA shM ad sz) := by
  refine zx_start (by decide) rfl (Nat.le_of_ble_eq_true rfl) ?_
  intro p e s m args below meth c ls hx hb hr hts hown hlocks hml hG hl
  have hl : lv_has ls 1 [(0, .ref (ad 0))] := hl
  have hiX7 : ∀ w ∈ wsX70, w ∈ wsX7_trace := fun w h => List.mem_cons_of_mem _ (List.mem_append_right _ h)
  have L1 := hts (Cond.fieldLink RX7 218 "GalleryBirdsModel" "trace" "I") (List.mem_of_getElem? (i := 1) rfl)
  unfold fX7_trace at hf
  refine lv_aload_n hx hb dX7_trace_0 rfl (lv_at hl 0 rfl) ?_
  refine zx_getI hx hb hts hiX7 hown hG shM_0 vc_7 1 (by decide) rfl L1 dX7_trace_1 ?_
  exact zx_iret hx hb hr hlocks rfl hG hf dX7_trace_4

set_option maxHeartbeats 4000000 in
set_option maxRecDepth 100000 in
theorem mX7_fault (l : Launch) (D : va_G) (ad : Nat → Nat) (cA : Nat → ClassId) (I : zxI) (r : Int32) (J : zxI) (hf : fX7_fault I = some (r, J)) (sz : Nat) : Met l yX7_fault wsX7_fault { frames := 0, cells := 0, slots := 0, locals := 0 } (va_Pc [.ref (ad 0)] (zxPre D shM ad cA I sz)) (va_Qi (fun (r2 : Int32) (I2 : zxI) => r2 = r ∧ I2 = J) (zxPost D shM ad cA sz) (zxA shM ad sz)) 0 0 (zxA shM ad sz) := by
  refine zx_start (by decide) rfl (Nat.le_of_ble_eq_true rfl) ?_
  intro p e s m args below meth c ls hx hb hr hts hown hlocks hml hG hl
  have hl : lv_has ls 1 [(0, .ref (ad 0))] := hl
  have hiX7 : ∀ w ∈ wsX70, w ∈ wsX7_fault := fun w h => List.mem_cons_of_mem _ (List.mem_append_right _ h)
  have L1 := hts (Cond.fieldLink RX7 55 "GalleryBirdsModel" "fault" "I") (List.mem_of_getElem? (i := 1) rfl)
  unfold fX7_fault at hf
  refine lv_aload_n hx hb dX7_fault_0 rfl (lv_at hl 0 rfl) ?_
  refine zx_getI hx hb hts hiX7 hown hG shM_0 vc_7 0 (by decide) rfl L1 dX7_fault_1 ?_
  exact zx_iret hx hb hr hlocks rfl hG hf dX7_fault_4

set_option maxHeartbeats 4000000 in
set_option maxRecDepth 100000 in
theorem mX7_many (l : Launch) (D : va_G) (ad : Nat → Nat) (cA : Nat → ClassId) (x1 : Int32) (I : zxI) (r : Int32) (J : zxI) (hf : fX7_many x1 I = some (r, J)) (sz : Nat) : Met l yX7_many wsX7_many { frames := 1, cells := 0, slots := 0, locals := 22 } (va_Pc [.ref (ad 0), .int x1] (zxPre D shM ad cA I sz)) (va_Qi (fun (r2 : Int32) (I2 : zxI) => r2 = r ∧ I2 = J) (zxPost D shM ad cA sz) (zxA shM ad sz)) 0 0 (zxA shM ad sz) := by
  refine zx_start (by decide) rfl (Nat.le_of_ble_eq_true rfl) ?_
  intro p e s m args below meth c ls hx hb hr hts hown hlocks hml hG hl
  have hl : lv_has ls 2 [(0, .ref (ad 0)), (1, .int x1)] := hl
  have hiX7 : ∀ w ∈ wsX70, w ∈ wsX7_many := fun w h => List.mem_cons_of_mem _ (List.mem_append_right _ h)
  have L1 := hts (Cond.fieldLink RX7 65 "GalleryBirdsModel" "galleries" "I") (List.mem_of_getElem? (i := 1) rfl)
  have L2 := hts (Cond.fieldLink RX7 68 "GalleryBirdsModel" "words" "I") (List.mem_of_getElem? (i := 2) rfl)
  have L3 := hts (Cond.fieldLink RX7 104 "GalleryBirdsModel" "breaths" "I") (List.mem_of_getElem? (i := 3) rfl)
  have L4 := hts (Cond.fieldLink RX7 107 "GalleryBirdsModel" "down" "I") (List.mem_of_getElem? (i := 4) rfl)
  have L5 := hts (Cond.fieldLink RX7 110 "GalleryBirdsModel" "readings" "I") (List.mem_of_getElem? (i := 5) rfl)
  unfold fX7_many at hf
  refine lv_iload_n hx hb dX7_many_0 rfl (lv_at hl 1 rfl) ?_
  by_cases c_1 : x1 = (0 : Int32)
  · have hf := zx_pos c_1 hf
    refine lv_tableIn (off := 35) (tgt := 36) hx hb dX7_many_1 (by rw [c_1]; decide) (by rw [c_1]; decide) (by rw [c_1]; decide) (by decide) ?_
    refine lv_aload_n hx hb dX7_many_36 rfl (lv_at hl 0 rfl) ?_
    refine zx_getI hx hb hts hiX7 hown hG shM_0 vc_7 5 (by decide) rfl L1 dX7_many_37 ?_
    exact zx_iret hx hb hr hlocks rfl hG hf dX7_many_40
  have hf := zx_neg c_1 hf
  by_cases c_2 : x1 = (1 : Int32)
  · have hf := zx_pos c_2 hf
    refine lv_tableIn (off := 40) (tgt := 41) hx hb dX7_many_1 (by rw [c_2]; decide) (by rw [c_2]; decide) (by rw [c_2]; decide) (by decide) ?_
    refine lv_aload_n hx hb dX7_many_41 rfl (lv_at hl 0 rfl) ?_
    refine zx_getI hx hb hts hiX7 hown hG shM_0 vc_7 6 (by decide) rfl L2 dX7_many_42 ?_
    exact zx_iret hx hb hr hlocks rfl hG hf dX7_many_45
  have hf := zx_neg c_2 hf
  by_cases c_3 : x1 = (2 : Int32)
  · have hf := zx_pos c_3 hf
    refine lv_tableIn (off := 45) (tgt := 46) hx hb dX7_many_1 (by rw [c_3]; decide) (by rw [c_3]; decide) (by rw [c_3]; decide) (by decide) ?_
    refine lv_aload_n hx hb dX7_many_46 rfl (lv_at hl 0 rfl) ?_
    refine zx_getI hx hb hts hiX7 hown hG shM_0 vc_7 7 (by decide) rfl L3 dX7_many_47 ?_
    exact zx_iret hx hb hr hlocks rfl hG hf dX7_many_50
  have hf := zx_neg c_3 hf
  by_cases c_4 : x1 = (3 : Int32)
  · have hf := zx_pos c_4 hf
    refine lv_tableIn (off := 50) (tgt := 51) hx hb dX7_many_1 (by rw [c_4]; decide) (by rw [c_4]; decide) (by rw [c_4]; decide) (by decide) ?_
    refine lv_aload_n hx hb dX7_many_51 rfl (lv_at hl 0 rfl) ?_
    refine zx_getI hx hb hts hiX7 hown hG shM_0 vc_7 8 (by decide) rfl L4 dX7_many_52 ?_
    obtain ⟨r_6, I_6, h_6, hf⟩ := zx_b hf
    refine zx_calli (va_runS (As := [.int (I 0 8)]) (rest := []) ⟨hx, hb, hml, hown, hts⟩ (mX7_size l D ad cA (I 0 8) I r_6 I_6 h_6 _) (va_cwS 1 hts gX7_many_X7_size rfl rfl rfl hd_X7_size ⟨Nat.le_of_ble_eq_true rfl, Nat.le_of_ble_eq_true rfl⟩) (zx_preS hG) rfl rfl hl.1 rfl (lv_room (Nat.le_of_ble_eq_true rfl)) dX7_many_55 ⟨Nat.le_refl _, Nat.le_refl _⟩) hG (fun H locs hG => ?_)
    exact zx_iret hx hb hr hlocks rfl hG hf dX7_many_58
  have hf := zx_neg c_4 hf
  by_cases c_5 : x1 = (4 : Int32)
  · have hf := zx_pos c_5 hf
    refine lv_tableIn (off := 58) (tgt := 59) hx hb dX7_many_1 (by rw [c_5]; decide) (by rw [c_5]; decide) (by rw [c_5]; decide) (by decide) ?_
    refine lv_aload_n hx hb dX7_many_59 rfl (lv_at hl 0 rfl) ?_
    refine zx_getI hx hb hts hiX7 hown hG shM_0 vc_7 25 (by decide) rfl L5 dX7_many_60 ?_
    exact zx_iret hx hb hr hlocks rfl hG hf dX7_many_63
  have hf := zx_neg c_5 hf
  refine lv_tableOut (tgt := 64) hx hb dX7_many_1 (zx_tabOut 4 (by decide) (fun k hk => by rcases (show k = 0 ∨ k = 1 ∨ k = 2 ∨ k = 3 ∨ k = 4 by omega) with rfl | rfl | rfl | rfl | rfl <;> assumption)) (by decide) ?_
  refine lv_bipush (v := (-2 : Int32)) hx hb dX7_many_64 (by decide) ?_
  exact zx_iret hx hb hr hlocks rfl hG hf dX7_many_66
