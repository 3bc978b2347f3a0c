/-! walks of methods (laid by wip/whole/gen.py) -/
set_option maxHeartbeats 4000000 in
set_option maxRecDepth 100000 in
theorem mX7_readGallery (l : Launch) (D : va_G) (ad : Nat → Nat) (cA : Nat → ClassId) (x1 : Int32) (I : zxI) (r : Int32) (J : zxI) (hf : fX7_readGallery x1 I = some (r, J)) (sz : Nat) : Met l yX7_readGallery wsX7_readGallery { frames := 2, cells := 0, slots := 0, locals := 45 } (va_Pc [.ref (ad 0), .int x1] (zxPre D shM ad cA I sz)) (va_Qi (fun (r2 : Int32) (I2 : zxI) => r2 = r ∧ I2 = J) (zxPost D shM ad cA sz) (zxA shM ad sz)) 0 0 (zxA shM ad sz) := by
  refine zx_start (by decide) rfl (Nat.le_of_ble_eq_true rfl) ?_
  intro p e s m args below meth c ls hx hb hr hts hown hlocks hml hG hl
  have hl : lv_has ls 4 [(0, .ref (ad 0)), (1, .int x1)] := hl
  have hiX7 : ∀ w ∈ wsX70, w ∈ wsX7_readGallery := fun w h => List.mem_cons_of_mem _ (List.mem_append_right _ h)
  have L1 := hts (Cond.fieldLink RX7 71 "GalleryBirdsModel" "at" "I") (List.mem_of_getElem? (i := 1) rfl)
  have L2 := hts (Cond.fieldLink RX7 98 "GalleryBirdsModel" "readGalleries" "I") (List.mem_of_getElem? (i := 3) rfl)
  have L3 := hts (Cond.fieldLink RX7 34 "GalleryBirdsModel" "read" "[I") (List.mem_of_getElem? (i := 4) rfl)
  have L4 := hts (Cond.fieldLink RX7 16 "GalleryBirdsModel" "cells" "[I") (List.mem_of_getElem? (i := 2) rfl)
  unfold fX7_readGallery at hf
  refine lv_aload_n hx hb dX7_readGallery_0 rfl (lv_at hl 0 rfl) ?_
  refine zx_getI hx hb hts hiX7 hown hG shM_0 vc_7 14 (by decide) rfl L1 dX7_readGallery_1 ?_
  refine lv_iload_n hx hb dX7_readGallery_4 rfl (lv_at hl 1 rfl) ?_
  refine lv_icmp_ge (tgt := 20) hx hb dX7_readGallery_5 (by decide) (fun c_1 => ?_) (fun c_1 => ?_)
  · have hf := zx_pos c_1 hf
    refine lv_iconst (v := (0 : Int32)) hx hb dX7_readGallery_20 (by decide) ?_
    refine lv_istore_n (lv' := [(2, .int (0 : Int32)), (0, .ref (ad 0)), (1, .int x1)]) hx hb dX7_readGallery_21 rfl hl (by decide) rfl (fun ls hl => ?_)
    refine lv_iconst (v := (4 : Int32)) hx hb dX7_readGallery_22 (by decide) ?_
    refine lv_aload_n hx hb dX7_readGallery_23 rfl (lv_at hl 1 rfl) ?_
    refine zx_getI hx hb hts hiX7 hown hG shM_0 vc_7 16 (by decide) rfl L2 dX7_readGallery_24 ?_
    refine lv_imul hx hb dX7_readGallery_27 ?_
    refine lv_istore_n (lv' := [(3, .int ((4 : Int32) * (I 0 16))), (2, .int (0 : Int32)), (0, .ref (ad 0)), (1, .int x1)]) hx hb dX7_readGallery_28 rfl hl (by decide) rfl (fun ls hl => ?_)
    refine lv_aload_n hx hb dX7_readGallery_29 rfl (lv_at hl 2 rfl) ?_
    refine zx_getR (d := 9) hx hb hts hiX7 hown hG shM_0 vc_7 18 (by decide) rfl L3 dX7_readGallery_30 ?_
    refine lv_iload_n hx hb dX7_readGallery_33 rfl (lv_at hl 0 rfl) ?_
    refine lv_iload_n hx hb dX7_readGallery_34 rfl (lv_at hl 1 rfl) ?_
    refine lv_bipush (v := (103 : Int32)) hx hb dX7_readGallery_35 (by decide) ?_
    refine lv_icmp_ne (tgt := 44) hx hb dX7_readGallery_37 (by decide) (fun _ => ?_) (fun c_2 => absurd c_2 (by decide))
    refine lv_iload_n hx hb dX7_readGallery_44 rfl (lv_at hl 1 rfl) ?_
    refine lv_bipush (v := (110 : Int32)) hx hb dX7_readGallery_45 (by decide) ?_
    refine lv_icmp_ne (tgt := 54) hx hb dX7_readGallery_47 (by decide) (fun _ => ?_) (fun c_3 => absurd c_3 (by decide))
    refine lv_iload_n hx hb dX7_readGallery_54 rfl (lv_at hl 1 rfl) ?_
    refine lv_bipush (v := (98 : Int32)) hx hb dX7_readGallery_55 (by decide) ?_
    refine lv_icmp_ne (tgt := 64) hx hb dX7_readGallery_57 (by decide) (fun _ => ?_) (fun c_4 => absurd c_4 (by decide))
    refine lv_bipush (v := (-9 : Int32)) hx hb dX7_readGallery_64 (by decide) ?_
    obtain ⟨g_5, hf⟩ := zx_in hf
    refine zx_ast hx hb hG shM_9 g_5 dX7_readGallery_66 (fun H locs hG => ?_)
    refine lv_aload_n hx hb dX7_readGallery_67 rfl (lv_at hl 2 rfl) ?_
    refine zx_getR (d := 9) hx hb hts hiX7 hown hG shM_0 vc_7 18 (by decide) rfl L3 dX7_readGallery_68 ?_
    refine lv_iload_n hx hb dX7_readGallery_71 rfl (lv_at hl 0 rfl) ?_
    refine zx_ald hx hb hG shM_9 g_5 dX7_readGallery_72 ?_
    refine lv_bipush (v := (-9 : Int32)) hx hb dX7_readGallery_73 (by decide) ?_
    refine lv_icmp_ne (tgt := 80) hx hb dX7_readGallery_75 (by decide) (fun c_7 => ?_) (fun c_7 => ?_)
    · have hf := zx_neg c_7 hf
      refine lv_aload_n hx hb dX7_readGallery_80 rfl (lv_at hl 2 rfl) ?_
      refine lv_dup hx hb dX7_readGallery_81 rfl ?_
      refine zx_getI hx hb hts hiX7 hown hG shM_0 vc_7 14 (by decide) rfl L1 dX7_readGallery_82 ?_
      refine lv_iconst (v := (1 : Int32)) hx hb dX7_readGallery_85 (by decide) ?_
      refine lv_iadd hx hb dX7_readGallery_86 ?_
      refine zx_putI hx hb hts hiX7 tyX7 tyX7_ok nmX7 hown hG shM_0 vc_7 14 (by decide) rfl L1 rfl (ty := .int) (tyX7_ok 14 (by decide)) rfl rfl dX7_readGallery_87 (fun H locs hG => ?_)
      refine lv_aload_n hx hb dX7_readGallery_90 rfl (lv_at hl 2 rfl) ?_
      refine zx_getR (d := 9) hx hb hts hiX7 hown hG shM_0 vc_7 18 (by decide) rfl L3 dX7_readGallery_91 ?_
      refine lv_iload_n hx hb dX7_readGallery_94 rfl (lv_at hl 0 rfl) ?_
      refine lv_iconst (v := (1 : Int32)) hx hb dX7_readGallery_95 (by decide) ?_
      refine lv_iadd hx hb dX7_readGallery_96 ?_
      refine lv_aload_n hx hb dX7_readGallery_97 rfl (lv_at hl 2 rfl) ?_
      refine lv_iload_n hx hb dX7_readGallery_98 rfl (lv_at hl 3 rfl) ?_
      refine lv_iconst (v := (0 : Int32)) hx hb dX7_readGallery_99 (by decide) ?_
      refine lv_bipush (v := (9 : Int32)) hx hb dX7_readGallery_100 (by decide) ?_
      obtain ⟨r_8, I_8, h_8, hf⟩ := zx_b hf
      refine zx_calli (va_runV (As := [.int x1, .int (0 : Int32), .int (9 : Int32)]) (rest := [.int (((4 : Int32) * (I 0 16)) + (1 : Int32)), .ref (ad 9)]) ⟨hx, hb, hml, hown, hts⟩ (mX7_digit l D ad cA x1 (0 : Int32) (9 : Int32) (zxU (zxU I 9 ((4 : Int32) * (I 0 16)).toNatClampNeg (-9 : Int32)) 0 14 (((zxU I 9 ((4 : Int32) * (I 0 16)).toNatClampNeg (-9 : Int32)) 0 14) + (1 : Int32))) r_8 I_8 h_8 _) (cwV 3 hts gX7_readGallery_X7_digit rfl rfl rfl hd_X7_digit ⟨Nat.le_of_ble_eq_true rfl, Nat.le_of_ble_eq_true rfl⟩) (zx_preV hG shM_0 vc_7) rfl rfl hl.1 rfl (lv_room (Nat.le_of_ble_eq_true rfl)) dX7_readGallery_102 ⟨Nat.le_refl _, Nat.le_refl _⟩) hG (fun H locs hG => ?_)
      obtain ⟨g_9, hf⟩ := zx_in hf
      refine zx_ast hx hb hG shM_9 g_9 dX7_readGallery_105 (fun H locs hG => ?_)
      refine lv_aload_n hx hb dX7_readGallery_106 rfl (lv_at hl 2 rfl) ?_
      refine zx_getR (d := 9) hx hb hts hiX7 hown hG shM_0 vc_7 18 (by decide) rfl L3 dX7_readGallery_107 ?_
      refine lv_iload_n hx hb dX7_readGallery_110 rfl (lv_at hl 0 rfl) ?_
      refine lv_iconst (v := (1 : Int32)) hx hb dX7_readGallery_111 (by decide) ?_
      refine lv_iadd hx hb dX7_readGallery_112 ?_
      refine zx_ald hx hb hG shM_9 g_9 dX7_readGallery_113 ?_
      refine lv_bipush (v := (-9 : Int32)) hx hb dX7_readGallery_114 (by decide) ?_
      refine lv_icmp_ne (tgt := 121) hx hb dX7_readGallery_116 (by decide) (fun c_11 => ?_) (fun c_11 => ?_)
      · have hf := zx_neg c_11 hf
        refine lv_aload_n hx hb dX7_readGallery_121 rfl (lv_at hl 2 rfl) ?_
        refine zx_getR (d := 9) hx hb hts hiX7 hown hG shM_0 vc_7 18 (by decide) rfl L3 dX7_readGallery_122 ?_
        refine lv_iload_n hx hb dX7_readGallery_125 rfl (lv_at hl 0 rfl) ?_
        refine lv_iconst (v := (2 : Int32)) hx hb dX7_readGallery_126 (by decide) ?_
        refine lv_iadd hx hb dX7_readGallery_127 ?_
        refine lv_aload_n hx hb dX7_readGallery_128 rfl (lv_at hl 2 rfl) ?_
        refine lv_iload_n hx hb dX7_readGallery_129 rfl (lv_at hl 3 rfl) ?_
        refine lv_iconst (v := (1 : Int32)) hx hb dX7_readGallery_130 (by decide) ?_
        refine lv_bipush (v := (9 : Int32)) hx hb dX7_readGallery_131 (by decide) ?_
        obtain ⟨r_12, I_12, h_12, hf⟩ := zx_b hf
        refine zx_calli (va_runV (As := [.int x1, .int (1 : Int32), .int (9 : Int32)]) (rest := [.int (((4 : Int32) * (I 0 16)) + (2 : Int32)), .ref (ad 9)]) ⟨hx, hb, hml, hown, hts⟩ (mX7_digit l D ad cA x1 (1 : Int32) (9 : Int32) (zxU I_8 9 (((4 : Int32) * (I 0 16)) + (1 : Int32)).toNatClampNeg r_8) r_12 I_12 h_12 _) (cwV 3 hts gX7_readGallery_X7_digit rfl rfl rfl hd_X7_digit ⟨Nat.le_of_ble_eq_true rfl, Nat.le_of_ble_eq_true rfl⟩) (zx_preV hG shM_0 vc_7) rfl rfl hl.1 rfl (lv_room (Nat.le_of_ble_eq_true rfl)) dX7_readGallery_133 ⟨Nat.le_refl _, Nat.le_refl _⟩) hG (fun H locs hG => ?_)
        obtain ⟨g_13, hf⟩ := zx_in hf
        refine zx_ast hx hb hG shM_9 g_13 dX7_readGallery_136 (fun H locs hG => ?_)
        refine lv_aload_n hx hb dX7_readGallery_137 rfl (lv_at hl 2 rfl) ?_
        refine zx_getR (d := 9) hx hb hts hiX7 hown hG shM_0 vc_7 18 (by decide) rfl L3 dX7_readGallery_138 ?_
        refine lv_iload_n hx hb dX7_readGallery_141 rfl (lv_at hl 0 rfl) ?_
        refine lv_iconst (v := (2 : Int32)) hx hb dX7_readGallery_142 (by decide) ?_
        refine lv_iadd hx hb dX7_readGallery_143 ?_
        refine zx_ald hx hb hG shM_9 g_13 dX7_readGallery_144 ?_
        refine lv_bipush (v := (-9 : Int32)) hx hb dX7_readGallery_145 (by decide) ?_
        refine lv_icmp_ne (tgt := 152) hx hb dX7_readGallery_147 (by decide) (fun c_15 => ?_) (fun c_15 => ?_)
        · have hf := zx_neg c_15 hf
          refine lv_aload_n hx hb dX7_readGallery_152 rfl (lv_at hl 2 rfl) ?_
          refine zx_getR (d := 9) hx hb hts hiX7 hown hG shM_0 vc_7 18 (by decide) rfl L3 dX7_readGallery_153 ?_
          refine lv_iload_n hx hb dX7_readGallery_156 rfl (lv_at hl 0 rfl) ?_
          refine lv_iconst (v := (3 : Int32)) hx hb dX7_readGallery_157 (by decide) ?_
          refine lv_iadd hx hb dX7_readGallery_158 ?_
          refine lv_aload_n hx hb dX7_readGallery_159 rfl (lv_at hl 2 rfl) ?_
          refine lv_iload_n hx hb dX7_readGallery_160 rfl (lv_at hl 3 rfl) ?_
          refine lv_iconst (v := (0 : Int32)) hx hb dX7_readGallery_161 (by decide) ?_
          refine lv_iconst (v := (1 : Int32)) hx hb dX7_readGallery_162 (by decide) ?_
          obtain ⟨r_16, I_16, h_16, hf⟩ := zx_b hf
          refine zx_calli (va_runV (As := [.int x1, .int (0 : Int32), .int (1 : Int32)]) (rest := [.int (((4 : Int32) * (I 0 16)) + (3 : Int32)), .ref (ad 9)]) ⟨hx, hb, hml, hown, hts⟩ (mX7_digit l D ad cA x1 (0 : Int32) (1 : Int32) (zxU I_12 9 (((4 : Int32) * (I 0 16)) + (2 : Int32)).toNatClampNeg r_12) r_16 I_16 h_16 _) (cwV 3 hts gX7_readGallery_X7_digit rfl rfl rfl hd_X7_digit ⟨Nat.le_of_ble_eq_true rfl, Nat.le_of_ble_eq_true rfl⟩) (zx_preV hG shM_0 vc_7) rfl rfl hl.1 rfl (lv_room (Nat.le_of_ble_eq_true rfl)) dX7_readGallery_163 ⟨Nat.le_refl _, Nat.le_refl _⟩) hG (fun H locs hG => ?_)
          obtain ⟨g_17, hf⟩ := zx_in hf
          refine zx_ast hx hb hG shM_9 g_17 dX7_readGallery_166 (fun H locs hG => ?_)
          refine lv_aload_n hx hb dX7_readGallery_167 rfl (lv_at hl 2 rfl) ?_
          refine lv_dup hx hb dX7_readGallery_168 rfl ?_
          refine zx_getI hx hb hts hiX7 hown hG shM_0 vc_7 16 (by decide) rfl L2 dX7_readGallery_169 ?_
          refine lv_iconst (v := (1 : Int32)) hx hb dX7_readGallery_172 (by decide) ?_
          refine lv_iadd hx hb dX7_readGallery_173 ?_
          refine zx_putI hx hb hts hiX7 tyX7 tyX7_ok nmX7 hown hG shM_0 vc_7 16 (by decide) rfl L2 rfl (ty := .int) (tyX7_ok 16 (by decide)) rfl rfl dX7_readGallery_174 (fun H locs hG => ?_)
          refine lv_aload_n hx hb dX7_readGallery_177 rfl (lv_at hl 2 rfl) ?_
          refine zx_getR (d := 9) hx hb hts hiX7 hown hG shM_0 vc_7 18 (by decide) rfl L3 dX7_readGallery_178 ?_
          refine lv_iload_n hx hb dX7_readGallery_181 rfl (lv_at hl 0 rfl) ?_
          refine lv_iconst (v := (3 : Int32)) hx hb dX7_readGallery_182 (by decide) ?_
          refine lv_iadd hx hb dX7_readGallery_183 ?_
          refine zx_ald hx hb hG shM_9 g_17 dX7_readGallery_184 ?_
          refine lv_bipush (v := (-9 : Int32)) hx hb dX7_readGallery_185 (by decide) ?_
          refine lv_icmp_eq (tgt := 194) hx hb dX7_readGallery_187 (by decide) (fun c_19 => ?_) (fun c_19 => ?_)
          · have hf := zx_pos c_19 hf
            refine lv_iconst (v := (0 : Int32)) hx hb dX7_readGallery_194 (by decide) ?_
            exact zx_iret hx hb hr hlocks rfl hG hf dX7_readGallery_195
          · have hf := zx_neg c_19 hf
            refine lv_iconst (v := (1 : Int32)) hx hb dX7_readGallery_190 (by decide) ?_
            refine lv_goto (tgt := 195) hx hb dX7_readGallery_191 (by decide) ?_
            exact zx_iret hx hb hr hlocks rfl hG hf dX7_readGallery_195
        · have hf := zx_pos c_15 hf
          refine lv_iconst (v := (0 : Int32)) hx hb dX7_readGallery_150 (by decide) ?_
          exact zx_iret hx hb hr hlocks rfl hG hf dX7_readGallery_151
      · have hf := zx_pos c_11 hf
        refine lv_iconst (v := (0 : Int32)) hx hb dX7_readGallery_119 (by decide) ?_
        exact zx_iret hx hb hr hlocks rfl hG hf dX7_readGallery_120
    · have hf := zx_pos c_7 hf
      refine lv_iconst (v := (0 : Int32)) hx hb dX7_readGallery_78 (by decide) ?_
      exact zx_iret hx hb hr hlocks rfl hG hf dX7_readGallery_79
  · have hf := zx_neg c_1 hf
    refine lv_aload_n hx hb dX7_readGallery_8 rfl (lv_at hl 0 rfl) ?_
    refine zx_getR (d := 3) hx hb hts hiX7 hown hG shM_0 vc_7 4 (by decide) rfl L4 dX7_readGallery_9 ?_
    refine lv_aload_n hx hb dX7_readGallery_12 rfl (lv_at hl 0 rfl) ?_
    refine zx_getI hx hb hts hiX7 hown hG shM_0 vc_7 14 (by decide) rfl L1 dX7_readGallery_13 ?_
    obtain ⟨g_20, hf⟩ := zx_in hf
    refine zx_ald hx hb hG shM_3 g_20 dX7_readGallery_16 ?_
    refine lv_goto (tgt := 21) hx hb dX7_readGallery_17 (by decide) ?_
    refine lv_istore_n (lv' := [(2, .int (I 3 (I 0 14).toNatClampNeg)), (0, .ref (ad 0)), (1, .int x1)]) hx hb dX7_readGallery_21 rfl hl (by decide) rfl (fun ls hl => ?_)
    refine lv_iconst (v := (4 : Int32)) hx hb dX7_readGallery_22 (by decide) ?_
    refine lv_aload_n hx hb dX7_readGallery_23 rfl (lv_at hl 1 rfl) ?_
    refine zx_getI hx hb hts hiX7 hown hG shM_0 vc_7 16 (by decide) rfl L2 dX7_readGallery_24 ?_
    refine lv_imul hx hb dX7_readGallery_27 ?_
    refine lv_istore_n (lv' := [(3, .int ((4 : Int32) * (I 0 16))), (2, .int (I 3 (I 0 14).toNatClampNeg)), (0, .ref (ad 0)), (1, .int x1)]) hx hb dX7_readGallery_28 rfl hl (by decide) rfl (fun ls hl => ?_)
    refine lv_aload_n hx hb dX7_readGallery_29 rfl (lv_at hl 2 rfl) ?_
    refine zx_getR (d := 9) hx hb hts hiX7 hown hG shM_0 vc_7 18 (by decide) rfl L3 dX7_readGallery_30 ?_
    refine lv_iload_n hx hb dX7_readGallery_33 rfl (lv_at hl 0 rfl) ?_
    refine lv_iload_n hx hb dX7_readGallery_34 rfl (lv_at hl 1 rfl) ?_
    refine lv_bipush (v := (103 : Int32)) hx hb dX7_readGallery_35 (by decide) ?_
    refine lv_icmp_ne (tgt := 44) hx hb dX7_readGallery_37 (by decide) (fun c_21 => ?_) (fun c_21 => ?_)
    · have hf := zx_neg c_21 hf
      refine lv_iload_n hx hb dX7_readGallery_44 rfl (lv_at hl 1 rfl) ?_
      refine lv_bipush (v := (110 : Int32)) hx hb dX7_readGallery_45 (by decide) ?_
      refine lv_icmp_ne (tgt := 54) hx hb dX7_readGallery_47 (by decide) (fun c_22 => ?_) (fun c_22 => ?_)
      · have hf := zx_neg c_22 hf
        refine lv_iload_n hx hb dX7_readGallery_54 rfl (lv_at hl 1 rfl) ?_
        refine lv_bipush (v := (98 : Int32)) hx hb dX7_readGallery_55 (by decide) ?_
        refine lv_icmp_ne (tgt := 64) hx hb dX7_readGallery_57 (by decide) (fun c_23 => ?_) (fun c_23 => ?_)
        · have hf := zx_neg c_23 hf
          refine lv_bipush (v := (-9 : Int32)) hx hb dX7_readGallery_64 (by decide) ?_
          obtain ⟨g_24, hf⟩ := zx_in hf
          refine zx_ast hx hb hG shM_9 g_24 dX7_readGallery_66 (fun H locs hG => ?_)
          refine lv_aload_n hx hb dX7_readGallery_67 rfl (lv_at hl 2 rfl) ?_
          refine zx_getR (d := 9) hx hb hts hiX7 hown hG shM_0 vc_7 18 (by decide) rfl L3 dX7_readGallery_68 ?_
          refine lv_iload_n hx hb dX7_readGallery_71 rfl (lv_at hl 0 rfl) ?_
          refine zx_ald hx hb hG shM_9 g_24 dX7_readGallery_72 ?_
          refine lv_bipush (v := (-9 : Int32)) hx hb dX7_readGallery_73 (by decide) ?_
          refine lv_icmp_ne (tgt := 80) hx hb dX7_readGallery_75 (by decide) (fun c_26 => ?_) (fun c_26 => ?_)
          · have hf := zx_neg c_26 hf
            refine lv_aload_n hx hb dX7_readGallery_80 rfl (lv_at hl 2 rfl) ?_
            refine lv_dup hx hb dX7_readGallery_81 rfl ?_
            refine zx_getI hx hb hts hiX7 hown hG shM_0 vc_7 14 (by decide) rfl L1 dX7_readGallery_82 ?_
            refine lv_iconst (v := (1 : Int32)) hx hb dX7_readGallery_85 (by decide) ?_
            refine lv_iadd hx hb dX7_readGallery_86 ?_
            refine zx_putI hx hb hts hiX7 tyX7 tyX7_ok nmX7 hown hG shM_0 vc_7 14 (by decide) rfl L1 rfl (ty := .int) (tyX7_ok 14 (by decide)) rfl rfl dX7_readGallery_87 (fun H locs hG => ?_)
            refine lv_aload_n hx hb dX7_readGallery_90 rfl (lv_at hl 2 rfl) ?_
            refine zx_getR (d := 9) hx hb hts hiX7 hown hG shM_0 vc_7 18 (by decide) rfl L3 dX7_readGallery_91 ?_
            refine lv_iload_n hx hb dX7_readGallery_94 rfl (lv_at hl 0 rfl) ?_
            refine lv_iconst (v := (1 : Int32)) hx hb dX7_readGallery_95 (by decide) ?_
            refine lv_iadd hx hb dX7_readGallery_96 ?_
            refine lv_aload_n hx hb dX7_readGallery_97 rfl (lv_at hl 2 rfl) ?_
            refine lv_iload_n hx hb dX7_readGallery_98 rfl (lv_at hl 3 rfl) ?_
            refine lv_iconst (v := (0 : Int32)) hx hb dX7_readGallery_99 (by decide) ?_
            refine lv_bipush (v := (9 : Int32)) hx hb dX7_readGallery_100 (by decide) ?_
            obtain ⟨r_27, I_27, h_27, hf⟩ := zx_b hf
            refine zx_calli (va_runV (As := [.int x1, .int (0 : Int32), .int (9 : Int32)]) (rest := [.int (((4 : Int32) * (I 0 16)) + (1 : Int32)), .ref (ad 9)]) ⟨hx, hb, hml, hown, hts⟩ (mX7_digit l D ad cA x1 (0 : Int32) (9 : Int32) (zxU (zxU I 9 ((4 : Int32) * (I 0 16)).toNatClampNeg (-9 : Int32)) 0 14 (((zxU I 9 ((4 : Int32) * (I 0 16)).toNatClampNeg (-9 : Int32)) 0 14) + (1 : Int32))) r_27 I_27 h_27 _) (cwV 3 hts gX7_readGallery_X7_digit rfl rfl rfl hd_X7_digit ⟨Nat.le_of_ble_eq_true rfl, Nat.le_of_ble_eq_true rfl⟩) (zx_preV hG shM_0 vc_7) rfl rfl hl.1 rfl (lv_room (Nat.le_of_ble_eq_true rfl)) dX7_readGallery_102 ⟨Nat.le_refl _, Nat.le_refl _⟩) hG (fun H locs hG => ?_)
            obtain ⟨g_28, hf⟩ := zx_in hf
            refine zx_ast hx hb hG shM_9 g_28 dX7_readGallery_105 (fun H locs hG => ?_)
            refine lv_aload_n hx hb dX7_readGallery_106 rfl (lv_at hl 2 rfl) ?_
            refine zx_getR (d := 9) hx hb hts hiX7 hown hG shM_0 vc_7 18 (by decide) rfl L3 dX7_readGallery_107 ?_
            refine lv_iload_n hx hb dX7_readGallery_110 rfl (lv_at hl 0 rfl) ?_
            refine lv_iconst (v := (1 : Int32)) hx hb dX7_readGallery_111 (by decide) ?_
            refine lv_iadd hx hb dX7_readGallery_112 ?_
            refine zx_ald hx hb hG shM_9 g_28 dX7_readGallery_113 ?_
            refine lv_bipush (v := (-9 : Int32)) hx hb dX7_readGallery_114 (by decide) ?_
            refine lv_icmp_ne (tgt := 121) hx hb dX7_readGallery_116 (by decide) (fun c_30 => ?_) (fun c_30 => ?_)
            · have hf := zx_neg c_30 hf
              refine lv_aload_n hx hb dX7_readGallery_121 rfl (lv_at hl 2 rfl) ?_
              refine zx_getR (d := 9) hx hb hts hiX7 hown hG shM_0 vc_7 18 (by decide) rfl L3 dX7_readGallery_122 ?_
              refine lv_iload_n hx hb dX7_readGallery_125 rfl (lv_at hl 0 rfl) ?_
              refine lv_iconst (v := (2 : Int32)) hx hb dX7_readGallery_126 (by decide) ?_
              refine lv_iadd hx hb dX7_readGallery_127 ?_
              refine lv_aload_n hx hb dX7_readGallery_128 rfl (lv_at hl 2 rfl) ?_
              refine lv_iload_n hx hb dX7_readGallery_129 rfl (lv_at hl 3 rfl) ?_
              refine lv_iconst (v := (1 : Int32)) hx hb dX7_readGallery_130 (by decide) ?_
              refine lv_bipush (v := (9 : Int32)) hx hb dX7_readGallery_131 (by decide) ?_
              obtain ⟨r_31, I_31, h_31, hf⟩ := zx_b hf
              refine zx_calli (va_runV (As := [.int x1, .int (1 : Int32), .int (9 : Int32)]) (rest := [.int (((4 : Int32) * (I 0 16)) + (2 : Int32)), .ref (ad 9)]) ⟨hx, hb, hml, hown, hts⟩ (mX7_digit l D ad cA x1 (1 : Int32) (9 : Int32) (zxU I_27 9 (((4 : Int32) * (I 0 16)) + (1 : Int32)).toNatClampNeg r_27) r_31 I_31 h_31 _) (cwV 3 hts gX7_readGallery_X7_digit rfl rfl rfl hd_X7_digit ⟨Nat.le_of_ble_eq_true rfl, Nat.le_of_ble_eq_true rfl⟩) (zx_preV hG shM_0 vc_7) rfl rfl hl.1 rfl (lv_room (Nat.le_of_ble_eq_true rfl)) dX7_readGallery_133 ⟨Nat.le_refl _, Nat.le_refl _⟩) hG (fun H locs hG => ?_)
              obtain ⟨g_32, hf⟩ := zx_in hf
              refine zx_ast hx hb hG shM_9 g_32 dX7_readGallery_136 (fun H locs hG => ?_)
              refine lv_aload_n hx hb dX7_readGallery_137 rfl (lv_at hl 2 rfl) ?_
              refine zx_getR (d := 9) hx hb hts hiX7 hown hG shM_0 vc_7 18 (by decide) rfl L3 dX7_readGallery_138 ?_
              refine lv_iload_n hx hb dX7_readGallery_141 rfl (lv_at hl 0 rfl) ?_
              refine lv_iconst (v := (2 : Int32)) hx hb dX7_readGallery_142 (by decide) ?_
              refine lv_iadd hx hb dX7_readGallery_143 ?_
              refine zx_ald hx hb hG shM_9 g_32 dX7_readGallery_144 ?_
              refine lv_bipush (v := (-9 : Int32)) hx hb dX7_readGallery_145 (by decide) ?_
              refine lv_icmp_ne (tgt := 152) hx hb dX7_readGallery_147 (by decide) (fun c_34 => ?_) (fun c_34 => ?_)
              · have hf := zx_neg c_34 hf
                refine lv_aload_n hx hb dX7_readGallery_152 rfl (lv_at hl 2 rfl) ?_
                refine zx_getR (d := 9) hx hb hts hiX7 hown hG shM_0 vc_7 18 (by decide) rfl L3 dX7_readGallery_153 ?_
                refine lv_iload_n hx hb dX7_readGallery_156 rfl (lv_at hl 0 rfl) ?_
                refine lv_iconst (v := (3 : Int32)) hx hb dX7_readGallery_157 (by decide) ?_
                refine lv_iadd hx hb dX7_readGallery_158 ?_
                refine lv_aload_n hx hb dX7_readGallery_159 rfl (lv_at hl 2 rfl) ?_
                refine lv_iload_n hx hb dX7_readGallery_160 rfl (lv_at hl 3 rfl) ?_
                refine lv_iconst (v := (0 : Int32)) hx hb dX7_readGallery_161 (by decide) ?_
                refine lv_iconst (v := (1 : Int32)) hx hb dX7_readGallery_162 (by decide) ?_
                obtain ⟨r_35, I_35, h_35, hf⟩ := zx_b hf
                refine zx_calli (va_runV (As := [.int x1, .int (0 : Int32), .int (1 : Int32)]) (rest := [.int (((4 : Int32) * (I 0 16)) + (3 : Int32)), .ref (ad 9)]) ⟨hx, hb, hml, hown, hts⟩ (mX7_digit l D ad cA x1 (0 : Int32) (1 : Int32) (zxU I_31 9 (((4 : Int32) * (I 0 16)) + (2 : Int32)).toNatClampNeg r_31) r_35 I_35 h_35 _) (cwV 3 hts gX7_readGallery_X7_digit rfl rfl rfl hd_X7_digit ⟨Nat.le_of_ble_eq_true rfl, Nat.le_of_ble_eq_true rfl⟩) (zx_preV hG shM_0 vc_7) rfl rfl hl.1 rfl (lv_room (Nat.le_of_ble_eq_true rfl)) dX7_readGallery_163 ⟨Nat.le_refl _, Nat.le_refl _⟩) hG (fun H locs hG => ?_)
                obtain ⟨g_36, hf⟩ := zx_in hf
                refine zx_ast hx hb hG shM_9 g_36 dX7_readGallery_166 (fun H locs hG => ?_)
                refine lv_aload_n hx hb dX7_readGallery_167 rfl (lv_at hl 2 rfl) ?_
                refine lv_dup hx hb dX7_readGallery_168 rfl ?_
                refine zx_getI hx hb hts hiX7 hown hG shM_0 vc_7 16 (by decide) rfl L2 dX7_readGallery_169 ?_
                refine lv_iconst (v := (1 : Int32)) hx hb dX7_readGallery_172 (by decide) ?_
                refine lv_iadd hx hb dX7_readGallery_173 ?_
                refine zx_putI hx hb hts hiX7 tyX7 tyX7_ok nmX7 hown hG shM_0 vc_7 16 (by decide) rfl L2 rfl (ty := .int) (tyX7_ok 16 (by decide)) rfl rfl dX7_readGallery_174 (fun H locs hG => ?_)
                refine lv_aload_n hx hb dX7_readGallery_177 rfl (lv_at hl 2 rfl) ?_
                refine zx_getR (d := 9) hx hb hts hiX7 hown hG shM_0 vc_7 18 (by decide) rfl L3 dX7_readGallery_178 ?_
                refine lv_iload_n hx hb dX7_readGallery_181 rfl (lv_at hl 0 rfl) ?_
                refine lv_iconst (v := (3 : Int32)) hx hb dX7_readGallery_182 (by decide) ?_
                refine lv_iadd hx hb dX7_readGallery_183 ?_
                refine zx_ald hx hb hG shM_9 g_36 dX7_readGallery_184 ?_
                refine lv_bipush (v := (-9 : Int32)) hx hb dX7_readGallery_185 (by decide) ?_
                refine lv_icmp_eq (tgt := 194) hx hb dX7_readGallery_187 (by decide) (fun c_38 => ?_) (fun c_38 => ?_)
                · have hf := zx_pos c_38 hf
                  refine lv_iconst (v := (0 : Int32)) hx hb dX7_readGallery_194 (by decide) ?_
                  exact zx_iret hx hb hr hlocks rfl hG hf dX7_readGallery_195
                · have hf := zx_neg c_38 hf
                  refine lv_iconst (v := (1 : Int32)) hx hb dX7_readGallery_190 (by decide) ?_
                  refine lv_goto (tgt := 195) hx hb dX7_readGallery_191 (by decide) ?_
                  exact zx_iret hx hb hr hlocks rfl hG hf dX7_readGallery_195
              · have hf := zx_pos c_34 hf
                refine lv_iconst (v := (0 : Int32)) hx hb dX7_readGallery_150 (by decide) ?_
                exact zx_iret hx hb hr hlocks rfl hG hf dX7_readGallery_151
            · have hf := zx_pos c_30 hf
              refine lv_iconst (v := (0 : Int32)) hx hb dX7_readGallery_119 (by decide) ?_
              exact zx_iret hx hb hr hlocks rfl hG hf dX7_readGallery_120
          · have hf := zx_pos c_26 hf
            refine lv_iconst (v := (0 : Int32)) hx hb dX7_readGallery_78 (by decide) ?_
            exact zx_iret hx hb hr hlocks rfl hG hf dX7_readGallery_79
        · have hf := zx_pos c_23 hf
          refine lv_iconst (v := (2 : Int32)) hx hb dX7_readGallery_60 (by decide) ?_
          refine lv_goto (tgt := 66) hx hb dX7_readGallery_61 (by decide) ?_
          obtain ⟨g_39, hf⟩ := zx_in hf
          refine zx_ast hx hb hG shM_9 g_39 dX7_readGallery_66 (fun H locs hG => ?_)
          refine lv_aload_n hx hb dX7_readGallery_67 rfl (lv_at hl 2 rfl) ?_
          refine zx_getR (d := 9) hx hb hts hiX7 hown hG shM_0 vc_7 18 (by decide) rfl L3 dX7_readGallery_68 ?_
          refine lv_iload_n hx hb dX7_readGallery_71 rfl (lv_at hl 0 rfl) ?_
          refine zx_ald hx hb hG shM_9 g_39 dX7_readGallery_72 ?_
          refine lv_bipush (v := (-9 : Int32)) hx hb dX7_readGallery_73 (by decide) ?_
          refine lv_icmp_ne (tgt := 80) hx hb dX7_readGallery_75 (by decide) (fun c_41 => ?_) (fun c_41 => ?_)
          · have hf := zx_neg c_41 hf
            refine lv_aload_n hx hb dX7_readGallery_80 rfl (lv_at hl 2 rfl) ?_
            refine lv_dup hx hb dX7_readGallery_81 rfl ?_
            refine zx_getI hx hb hts hiX7 hown hG shM_0 vc_7 14 (by decide) rfl L1 dX7_readGallery_82 ?_
            refine lv_iconst (v := (1 : Int32)) hx hb dX7_readGallery_85 (by decide) ?_
            refine lv_iadd hx hb dX7_readGallery_86 ?_
            refine zx_putI hx hb hts hiX7 tyX7 tyX7_ok nmX7 hown hG shM_0 vc_7 14 (by decide) rfl L1 rfl (ty := .int) (tyX7_ok 14 (by decide)) rfl rfl dX7_readGallery_87 (fun H locs hG => ?_)
            refine lv_aload_n hx hb dX7_readGallery_90 rfl (lv_at hl 2 rfl) ?_
            refine zx_getR (d := 9) hx hb hts hiX7 hown hG shM_0 vc_7 18 (by decide) rfl L3 dX7_readGallery_91 ?_
            refine lv_iload_n hx hb dX7_readGallery_94 rfl (lv_at hl 0 rfl) ?_
            refine lv_iconst (v := (1 : Int32)) hx hb dX7_readGallery_95 (by decide) ?_
            refine lv_iadd hx hb dX7_readGallery_96 ?_
            refine lv_aload_n hx hb dX7_readGallery_97 rfl (lv_at hl 2 rfl) ?_
            refine lv_iload_n hx hb dX7_readGallery_98 rfl (lv_at hl 3 rfl) ?_
            refine lv_iconst (v := (0 : Int32)) hx hb dX7_readGallery_99 (by decide) ?_
            refine lv_bipush (v := (9 : Int32)) hx hb dX7_readGallery_100 (by decide) ?_
            obtain ⟨r_42, I_42, h_42, hf⟩ := zx_b hf
            refine zx_calli (va_runV (As := [.int x1, .int (0 : Int32), .int (9 : Int32)]) (rest := [.int (((4 : Int32) * (I 0 16)) + (1 : Int32)), .ref (ad 9)]) ⟨hx, hb, hml, hown, hts⟩ (mX7_digit l D ad cA x1 (0 : Int32) (9 : Int32) (zxU (zxU I 9 ((4 : Int32) * (I 0 16)).toNatClampNeg (2 : Int32)) 0 14 (((zxU I 9 ((4 : Int32) * (I 0 16)).toNatClampNeg (2 : Int32)) 0 14) + (1 : Int32))) r_42 I_42 h_42 _) (cwV 3 hts gX7_readGallery_X7_digit rfl rfl rfl hd_X7_digit ⟨Nat.le_of_ble_eq_true rfl, Nat.le_of_ble_eq_true rfl⟩) (zx_preV hG shM_0 vc_7) rfl rfl hl.1 rfl (lv_room (Nat.le_of_ble_eq_true rfl)) dX7_readGallery_102 ⟨Nat.le_refl _, Nat.le_refl _⟩) hG (fun H locs hG => ?_)
            obtain ⟨g_43, hf⟩ := zx_in hf
            refine zx_ast hx hb hG shM_9 g_43 dX7_readGallery_105 (fun H locs hG => ?_)
            refine lv_aload_n hx hb dX7_readGallery_106 rfl (lv_at hl 2 rfl) ?_
            refine zx_getR (d := 9) hx hb hts hiX7 hown hG shM_0 vc_7 18 (by decide) rfl L3 dX7_readGallery_107 ?_
            refine lv_iload_n hx hb dX7_readGallery_110 rfl (lv_at hl 0 rfl) ?_
            refine lv_iconst (v := (1 : Int32)) hx hb dX7_readGallery_111 (by decide) ?_
            refine lv_iadd hx hb dX7_readGallery_112 ?_
            refine zx_ald hx hb hG shM_9 g_43 dX7_readGallery_113 ?_
            refine lv_bipush (v := (-9 : Int32)) hx hb dX7_readGallery_114 (by decide) ?_
            refine lv_icmp_ne (tgt := 121) hx hb dX7_readGallery_116 (by decide) (fun c_45 => ?_) (fun c_45 => ?_)
            · have hf := zx_neg c_45 hf
              refine lv_aload_n hx hb dX7_readGallery_121 rfl (lv_at hl 2 rfl) ?_
              refine zx_getR (d := 9) hx hb hts hiX7 hown hG shM_0 vc_7 18 (by decide) rfl L3 dX7_readGallery_122 ?_
              refine lv_iload_n hx hb dX7_readGallery_125 rfl (lv_at hl 0 rfl) ?_
              refine lv_iconst (v := (2 : Int32)) hx hb dX7_readGallery_126 (by decide) ?_
              refine lv_iadd hx hb dX7_readGallery_127 ?_
              refine lv_aload_n hx hb dX7_readGallery_128 rfl (lv_at hl 2 rfl) ?_
              refine lv_iload_n hx hb dX7_readGallery_129 rfl (lv_at hl 3 rfl) ?_
              refine lv_iconst (v := (1 : Int32)) hx hb dX7_readGallery_130 (by decide) ?_
              refine lv_bipush (v := (9 : Int32)) hx hb dX7_readGallery_131 (by decide) ?_
              obtain ⟨r_46, I_46, h_46, hf⟩ := zx_b hf
              refine zx_calli (va_runV (As := [.int x1, .int (1 : Int32), .int (9 : Int32)]) (rest := [.int (((4 : Int32) * (I 0 16)) + (2 : Int32)), .ref (ad 9)]) ⟨hx, hb, hml, hown, hts⟩ (mX7_digit l D ad cA x1 (1 : Int32) (9 : Int32) (zxU I_42 9 (((4 : Int32) * (I 0 16)) + (1 : Int32)).toNatClampNeg r_42) r_46 I_46 h_46 _) (cwV 3 hts gX7_readGallery_X7_digit rfl rfl rfl hd_X7_digit ⟨Nat.le_of_ble_eq_true rfl, Nat.le_of_ble_eq_true rfl⟩) (zx_preV hG shM_0 vc_7) rfl rfl hl.1 rfl (lv_room (Nat.le_of_ble_eq_true rfl)) dX7_readGallery_133 ⟨Nat.le_refl _, Nat.le_refl _⟩) hG (fun H locs hG => ?_)
              obtain ⟨g_47, hf⟩ := zx_in hf
              refine zx_ast hx hb hG shM_9 g_47 dX7_readGallery_136 (fun H locs hG => ?_)
              refine lv_aload_n hx hb dX7_readGallery_137 rfl (lv_at hl 2 rfl) ?_
              refine zx_getR (d := 9) hx hb hts hiX7 hown hG shM_0 vc_7 18 (by decide) rfl L3 dX7_readGallery_138 ?_
              refine lv_iload_n hx hb dX7_readGallery_141 rfl (lv_at hl 0 rfl) ?_
              refine lv_iconst (v := (2 : Int32)) hx hb dX7_readGallery_142 (by decide) ?_
              refine lv_iadd hx hb dX7_readGallery_143 ?_
              refine zx_ald hx hb hG shM_9 g_47 dX7_readGallery_144 ?_
              refine lv_bipush (v := (-9 : Int32)) hx hb dX7_readGallery_145 (by decide) ?_
              refine lv_icmp_ne (tgt := 152) hx hb dX7_readGallery_147 (by decide) (fun c_49 => ?_) (fun c_49 => ?_)
              · have hf := zx_neg c_49 hf
                refine lv_aload_n hx hb dX7_readGallery_152 rfl (lv_at hl 2 rfl) ?_
                refine zx_getR (d := 9) hx hb hts hiX7 hown hG shM_0 vc_7 18 (by decide) rfl L3 dX7_readGallery_153 ?_
                refine lv_iload_n hx hb dX7_readGallery_156 rfl (lv_at hl 0 rfl) ?_
                refine lv_iconst (v := (3 : Int32)) hx hb dX7_readGallery_157 (by decide) ?_
                refine lv_iadd hx hb dX7_readGallery_158 ?_
                refine lv_aload_n hx hb dX7_readGallery_159 rfl (lv_at hl 2 rfl) ?_
                refine lv_iload_n hx hb dX7_readGallery_160 rfl (lv_at hl 3 rfl) ?_
                refine lv_iconst (v := (0 : Int32)) hx hb dX7_readGallery_161 (by decide) ?_
                refine lv_iconst (v := (1 : Int32)) hx hb dX7_readGallery_162 (by decide) ?_
                obtain ⟨r_50, I_50, h_50, hf⟩ := zx_b hf
                refine zx_calli (va_runV (As := [.int x1, .int (0 : Int32), .int (1 : Int32)]) (rest := [.int (((4 : Int32) * (I 0 16)) + (3 : Int32)), .ref (ad 9)]) ⟨hx, hb, hml, hown, hts⟩ (mX7_digit l D ad cA x1 (0 : Int32) (1 : Int32) (zxU I_46 9 (((4 : Int32) * (I 0 16)) + (2 : Int32)).toNatClampNeg r_46) r_50 I_50 h_50 _) (cwV 3 hts gX7_readGallery_X7_digit rfl rfl rfl hd_X7_digit ⟨Nat.le_of_ble_eq_true rfl, Nat.le_of_ble_eq_true rfl⟩) (zx_preV hG shM_0 vc_7) rfl rfl hl.1 rfl (lv_room (Nat.le_of_ble_eq_true rfl)) dX7_readGallery_163 ⟨Nat.le_refl _, Nat.le_refl _⟩) hG (fun H locs hG => ?_)
                obtain ⟨g_51, hf⟩ := zx_in hf
                refine zx_ast hx hb hG shM_9 g_51 dX7_readGallery_166 (fun H locs hG => ?_)
                refine lv_aload_n hx hb dX7_readGallery_167 rfl (lv_at hl 2 rfl) ?_
                refine lv_dup hx hb dX7_readGallery_168 rfl ?_
                refine zx_getI hx hb hts hiX7 hown hG shM_0 vc_7 16 (by decide) rfl L2 dX7_readGallery_169 ?_
                refine lv_iconst (v := (1 : Int32)) hx hb dX7_readGallery_172 (by decide) ?_
                refine lv_iadd hx hb dX7_readGallery_173 ?_
                refine zx_putI hx hb hts hiX7 tyX7 tyX7_ok nmX7 hown hG shM_0 vc_7 16 (by decide) rfl L2 rfl (ty := .int) (tyX7_ok 16 (by decide)) rfl rfl dX7_readGallery_174 (fun H locs hG => ?_)
                refine lv_aload_n hx hb dX7_readGallery_177 rfl (lv_at hl 2 rfl) ?_
                refine zx_getR (d := 9) hx hb hts hiX7 hown hG shM_0 vc_7 18 (by decide) rfl L3 dX7_readGallery_178 ?_
                refine lv_iload_n hx hb dX7_readGallery_181 rfl (lv_at hl 0 rfl) ?_
                refine lv_iconst (v := (3 : Int32)) hx hb dX7_readGallery_182 (by decide) ?_
                refine lv_iadd hx hb dX7_readGallery_183 ?_
                refine zx_ald hx hb hG shM_9 g_51 dX7_readGallery_184 ?_
                refine lv_bipush (v := (-9 : Int32)) hx hb dX7_readGallery_185 (by decide) ?_
                refine lv_icmp_eq (tgt := 194) hx hb dX7_readGallery_187 (by decide) (fun c_53 => ?_) (fun c_53 => ?_)
                · have hf := zx_pos c_53 hf
                  refine lv_iconst (v := (0 : Int32)) hx hb dX7_readGallery_194 (by decide) ?_
                  exact zx_iret hx hb hr hlocks rfl hG hf dX7_readGallery_195
                · have hf := zx_neg c_53 hf
                  refine lv_iconst (v := (1 : Int32)) hx hb dX7_readGallery_190 (by decide) ?_
                  refine lv_goto (tgt := 195) hx hb dX7_readGallery_191 (by decide) ?_
                  exact zx_iret hx hb hr hlocks rfl hG hf dX7_readGallery_195
              · have hf := zx_pos c_49 hf
                refine lv_iconst (v := (0 : Int32)) hx hb dX7_readGallery_150 (by decide) ?_
                exact zx_iret hx hb hr hlocks rfl hG hf dX7_readGallery_151
            · have hf := zx_pos c_45 hf
              refine lv_iconst (v := (0 : Int32)) hx hb dX7_readGallery_119 (by decide) ?_
              exact zx_iret hx hb hr hlocks rfl hG hf dX7_readGallery_120
          · have hf := zx_pos c_41 hf
            refine lv_iconst (v := (0 : Int32)) hx hb dX7_readGallery_78 (by decide) ?_
            exact zx_iret hx hb hr hlocks rfl hG hf dX7_readGallery_79
      · have hf := zx_pos c_22 hf
        refine lv_iconst (v := (1 : Int32)) hx hb dX7_readGallery_50 (by decide) ?_
        refine lv_goto (tgt := 66) hx hb dX7_readGallery_51 (by decide) ?_
        obtain ⟨g_54, hf⟩ := zx_in hf
        refine zx_ast hx hb hG shM_9 g_54 dX7_readGallery_66 (fun H locs hG => ?_)
        refine lv_aload_n hx hb dX7_readGallery_67 rfl (lv_at hl 2 rfl) ?_
        refine zx_getR (d := 9) hx hb hts hiX7 hown hG shM_0 vc_7 18 (by decide) rfl L3 dX7_readGallery_68 ?_
        refine lv_iload_n hx hb dX7_readGallery_71 rfl (lv_at hl 0 rfl) ?_
        refine zx_ald hx hb hG shM_9 g_54 dX7_readGallery_72 ?_
        refine lv_bipush (v := (-9 : Int32)) hx hb dX7_readGallery_73 (by decide) ?_
        refine lv_icmp_ne (tgt := 80) hx hb dX7_readGallery_75 (by decide) (fun c_56 => ?_) (fun c_56 => ?_)
        · have hf := zx_neg c_56 hf
          refine lv_aload_n hx hb dX7_readGallery_80 rfl (lv_at hl 2 rfl) ?_
          refine lv_dup hx hb dX7_readGallery_81 rfl ?_
          refine zx_getI hx hb hts hiX7 hown hG shM_0 vc_7 14 (by decide) rfl L1 dX7_readGallery_82 ?_
          refine lv_iconst (v := (1 : Int32)) hx hb dX7_readGallery_85 (by decide) ?_
          refine lv_iadd hx hb dX7_readGallery_86 ?_
          refine zx_putI hx hb hts hiX7 tyX7 tyX7_ok nmX7 hown hG shM_0 vc_7 14 (by decide) rfl L1 rfl (ty := .int) (tyX7_ok 14 (by decide)) rfl rfl dX7_readGallery_87 (fun H locs hG => ?_)
          refine lv_aload_n hx hb dX7_readGallery_90 rfl (lv_at hl 2 rfl) ?_
          refine zx_getR (d := 9) hx hb hts hiX7 hown hG shM_0 vc_7 18 (by decide) rfl L3 dX7_readGallery_91 ?_
          refine lv_iload_n hx hb dX7_readGallery_94 rfl (lv_at hl 0 rfl) ?_
          refine lv_iconst (v := (1 : Int32)) hx hb dX7_readGallery_95 (by decide) ?_
          refine lv_iadd hx hb dX7_readGallery_96 ?_
          refine lv_aload_n hx hb dX7_readGallery_97 rfl (lv_at hl 2 rfl) ?_
          refine lv_iload_n hx hb dX7_readGallery_98 rfl (lv_at hl 3 rfl) ?_
          refine lv_iconst (v := (0 : Int32)) hx hb dX7_readGallery_99 (by decide) ?_
          refine lv_bipush (v := (9 : Int32)) hx hb dX7_readGallery_100 (by decide) ?_
          obtain ⟨r_57, I_57, h_57, hf⟩ := zx_b hf
          refine zx_calli (va_runV (As := [.int x1, .int (0 : Int32), .int (9 : Int32)]) (rest := [.int (((4 : Int32) * (I 0 16)) + (1 : Int32)), .ref (ad 9)]) ⟨hx, hb, hml, hown, hts⟩ (mX7_digit l D ad cA x1 (0 : Int32) (9 : Int32) (zxU (zxU I 9 ((4 : Int32) * (I 0 16)).toNatClampNeg (1 : Int32)) 0 14 (((zxU I 9 ((4 : Int32) * (I 0 16)).toNatClampNeg (1 : Int32)) 0 14) + (1 : Int32))) r_57 I_57 h_57 _) (cwV 3 hts gX7_readGallery_X7_digit rfl rfl rfl hd_X7_digit ⟨Nat.le_of_ble_eq_true rfl, Nat.le_of_ble_eq_true rfl⟩) (zx_preV hG shM_0 vc_7) rfl rfl hl.1 rfl (lv_room (Nat.le_of_ble_eq_true rfl)) dX7_readGallery_102 ⟨Nat.le_refl _, Nat.le_refl _⟩) hG (fun H locs hG => ?_)
          obtain ⟨g_58, hf⟩ := zx_in hf
          refine zx_ast hx hb hG shM_9 g_58 dX7_readGallery_105 (fun H locs hG => ?_)
          refine lv_aload_n hx hb dX7_readGallery_106 rfl (lv_at hl 2 rfl) ?_
          refine zx_getR (d := 9) hx hb hts hiX7 hown hG shM_0 vc_7 18 (by decide) rfl L3 dX7_readGallery_107 ?_
          refine lv_iload_n hx hb dX7_readGallery_110 rfl (lv_at hl 0 rfl) ?_
          refine lv_iconst (v := (1 : Int32)) hx hb dX7_readGallery_111 (by decide) ?_
          refine lv_iadd hx hb dX7_readGallery_112 ?_
          refine zx_ald hx hb hG shM_9 g_58 dX7_readGallery_113 ?_
          refine lv_bipush (v := (-9 : Int32)) hx hb dX7_readGallery_114 (by decide) ?_
          refine lv_icmp_ne (tgt := 121) hx hb dX7_readGallery_116 (by decide) (fun c_60 => ?_) (fun c_60 => ?_)
          · have hf := zx_neg c_60 hf
            refine lv_aload_n hx hb dX7_readGallery_121 rfl (lv_at hl 2 rfl) ?_
            refine zx_getR (d := 9) hx hb hts hiX7 hown hG shM_0 vc_7 18 (by decide) rfl L3 dX7_readGallery_122 ?_
            refine lv_iload_n hx hb dX7_readGallery_125 rfl (lv_at hl 0 rfl) ?_
            refine lv_iconst (v := (2 : Int32)) hx hb dX7_readGallery_126 (by decide) ?_
            refine lv_iadd hx hb dX7_readGallery_127 ?_
            refine lv_aload_n hx hb dX7_readGallery_128 rfl (lv_at hl 2 rfl) ?_
            refine lv_iload_n hx hb dX7_readGallery_129 rfl (lv_at hl 3 rfl) ?_
            refine lv_iconst (v := (1 : Int32)) hx hb dX7_readGallery_130 (by decide) ?_
            refine lv_bipush (v := (9 : Int32)) hx hb dX7_readGallery_131 (by decide) ?_
            obtain ⟨r_61, I_61, h_61, hf⟩ := zx_b hf
            refine zx_calli (va_runV (As := [.int x1, .int (1 : Int32), .int (9 : Int32)]) (rest := [.int (((4 : Int32) * (I 0 16)) + (2 : Int32)), .ref (ad 9)]) ⟨hx, hb, hml, hown, hts⟩ (mX7_digit l D ad cA x1 (1 : Int32) (9 : Int32) (zxU I_57 9 (((4 : Int32) * (I 0 16)) + (1 : Int32)).toNatClampNeg r_57) r_61 I_61 h_61 _) (cwV 3 hts gX7_readGallery_X7_digit rfl rfl rfl hd_X7_digit ⟨Nat.le_of_ble_eq_true rfl, Nat.le_of_ble_eq_true rfl⟩) (zx_preV hG shM_0 vc_7) rfl rfl hl.1 rfl (lv_room (Nat.le_of_ble_eq_true rfl)) dX7_readGallery_133 ⟨Nat.le_refl _, Nat.le_refl _⟩) hG (fun H locs hG => ?_)
            obtain ⟨g_62, hf⟩ := zx_in hf
            refine zx_ast hx hb hG shM_9 g_62 dX7_readGallery_136 (fun H locs hG => ?_)
            refine lv_aload_n hx hb dX7_readGallery_137 rfl (lv_at hl 2 rfl) ?_
            refine zx_getR (d := 9) hx hb hts hiX7 hown hG shM_0 vc_7 18 (by decide) rfl L3 dX7_readGallery_138 ?_
            refine lv_iload_n hx hb dX7_readGallery_141 rfl (lv_at hl 0 rfl) ?_
            refine lv_iconst (v := (2 : Int32)) hx hb dX7_readGallery_142 (by decide) ?_
            refine lv_iadd hx hb dX7_readGallery_143 ?_
            refine zx_ald hx hb hG shM_9 g_62 dX7_readGallery_144 ?_
            refine lv_bipush (v := (-9 : Int32)) hx hb dX7_readGallery_145 (by decide) ?_
            refine lv_icmp_ne (tgt := 152) hx hb dX7_readGallery_147 (by decide) (fun c_64 => ?_) (fun c_64 => ?_)
            · have hf := zx_neg c_64 hf
              refine lv_aload_n hx hb dX7_readGallery_152 rfl (lv_at hl 2 rfl) ?_
              refine zx_getR (d := 9) hx hb hts hiX7 hown hG shM_0 vc_7 18 (by decide) rfl L3 dX7_readGallery_153 ?_
              refine lv_iload_n hx hb dX7_readGallery_156 rfl (lv_at hl 0 rfl) ?_
              refine lv_iconst (v := (3 : Int32)) hx hb dX7_readGallery_157 (by decide) ?_
              refine lv_iadd hx hb dX7_readGallery_158 ?_
              refine lv_aload_n hx hb dX7_readGallery_159 rfl (lv_at hl 2 rfl) ?_
              refine lv_iload_n hx hb dX7_readGallery_160 rfl (lv_at hl 3 rfl) ?_
              refine lv_iconst (v := (0 : Int32)) hx hb dX7_readGallery_161 (by decide) ?_
              refine lv_iconst (v := (1 : Int32)) hx hb dX7_readGallery_162 (by decide) ?_
              obtain ⟨r_65, I_65, h_65, hf⟩ := zx_b hf
              refine zx_calli (va_runV (As := [.int x1, .int (0 : Int32), .int (1 : Int32)]) (rest := [.int (((4 : Int32) * (I 0 16)) + (3 : Int32)), .ref (ad 9)]) ⟨hx, hb, hml, hown, hts⟩ (mX7_digit l D ad cA x1 (0 : Int32) (1 : Int32) (zxU I_61 9 (((4 : Int32) * (I 0 16)) + (2 : Int32)).toNatClampNeg r_61) r_65 I_65 h_65 _) (cwV 3 hts gX7_readGallery_X7_digit rfl rfl rfl hd_X7_digit ⟨Nat.le_of_ble_eq_true rfl, Nat.le_of_ble_eq_true rfl⟩) (zx_preV hG shM_0 vc_7) rfl rfl hl.1 rfl (lv_room (Nat.le_of_ble_eq_true rfl)) dX7_readGallery_163 ⟨Nat.le_refl _, Nat.le_refl _⟩) hG (fun H locs hG => ?_)
              obtain ⟨g_66, hf⟩ := zx_in hf
              refine zx_ast hx hb hG shM_9 g_66 dX7_readGallery_166 (fun H locs hG => ?_)
              refine lv_aload_n hx hb dX7_readGallery_167 rfl (lv_at hl 2 rfl) ?_
              refine lv_dup hx hb dX7_readGallery_168 rfl ?_
              refine zx_getI hx hb hts hiX7 hown hG shM_0 vc_7 16 (by decide) rfl L2 dX7_readGallery_169 ?_
              refine lv_iconst (v := (1 : Int32)) hx hb dX7_readGallery_172 (by decide) ?_
              refine lv_iadd hx hb dX7_readGallery_173 ?_
              refine zx_putI hx hb hts hiX7 tyX7 tyX7_ok nmX7 hown hG shM_0 vc_7 16 (by decide) rfl L2 rfl (ty := .int) (tyX7_ok 16 (by decide)) rfl rfl dX7_readGallery_174 (fun H locs hG => ?_)
              refine lv_aload_n hx hb dX7_readGallery_177 rfl (lv_at hl 2 rfl) ?_
              refine zx_getR (d := 9) hx hb hts hiX7 hown hG shM_0 vc_7 18 (by decide) rfl L3 dX7_readGallery_178 ?_
              refine lv_iload_n hx hb dX7_readGallery_181 rfl (lv_at hl 0 rfl) ?_
              refine lv_iconst (v := (3 : Int32)) hx hb dX7_readGallery_182 (by decide) ?_
              refine lv_iadd hx hb dX7_readGallery_183 ?_
              refine zx_ald hx hb hG shM_9 g_66 dX7_readGallery_184 ?_
              refine lv_bipush (v := (-9 : Int32)) hx hb dX7_readGallery_185 (by decide) ?_
              refine lv_icmp_eq (tgt := 194) hx hb dX7_readGallery_187 (by decide) (fun c_68 => ?_) (fun c_68 => ?_)
              · have hf := zx_pos c_68 hf
                refine lv_iconst (v := (0 : Int32)) hx hb dX7_readGallery_194 (by decide) ?_
                exact zx_iret hx hb hr hlocks rfl hG hf dX7_readGallery_195
              · have hf := zx_neg c_68 hf
                refine lv_iconst (v := (1 : Int32)) hx hb dX7_readGallery_190 (by decide) ?_
                refine lv_goto (tgt := 195) hx hb dX7_readGallery_191 (by decide) ?_
                exact zx_iret hx hb hr hlocks rfl hG hf dX7_readGallery_195
            · have hf := zx_pos c_64 hf
              refine lv_iconst (v := (0 : Int32)) hx hb dX7_readGallery_150 (by decide) ?_
              exact zx_iret hx hb hr hlocks rfl hG hf dX7_readGallery_151
          · have hf := zx_pos c_60 hf
            refine lv_iconst (v := (0 : Int32)) hx hb dX7_readGallery_119 (by decide) ?_
            exact zx_iret hx hb hr hlocks rfl hG hf dX7_readGallery_120
        · have hf := zx_pos c_56 hf
          refine lv_iconst (v := (0 : Int32)) hx hb dX7_readGallery_78 (by decide) ?_
          exact zx_iret hx hb hr hlocks rfl hG hf dX7_readGallery_79
    · have hf := zx_pos c_21 hf
      refine lv_iconst (v := (0 : Int32)) hx hb dX7_readGallery_40 (by decide) ?_
      refine lv_goto (tgt := 66) hx hb dX7_readGallery_41 (by decide) ?_
      obtain ⟨g_69, hf⟩ := zx_in hf
      refine zx_ast hx hb hG shM_9 g_69 dX7_readGallery_66 (fun H locs hG => ?_)
      refine lv_aload_n hx hb dX7_readGallery_67 rfl (lv_at hl 2 rfl) ?_
      refine zx_getR (d := 9) hx hb hts hiX7 hown hG shM_0 vc_7 18 (by decide) rfl L3 dX7_readGallery_68 ?_
      refine lv_iload_n hx hb dX7_readGallery_71 rfl (lv_at hl 0 rfl) ?_
      refine zx_ald hx hb hG shM_9 g_69 dX7_readGallery_72 ?_
      refine lv_bipush (v := (-9 : Int32)) hx hb dX7_readGallery_73 (by decide) ?_
      refine lv_icmp_ne (tgt := 80) hx hb dX7_readGallery_75 (by decide) (fun c_71 => ?_) (fun c_71 => ?_)
      · have hf := zx_neg c_71 hf
        refine lv_aload_n hx hb dX7_readGallery_80 rfl (lv_at hl 2 rfl) ?_
        refine lv_dup hx hb dX7_readGallery_81 rfl ?_
        refine zx_getI hx hb hts hiX7 hown hG shM_0 vc_7 14 (by decide) rfl L1 dX7_readGallery_82 ?_
        refine lv_iconst (v := (1 : Int32)) hx hb dX7_readGallery_85 (by decide) ?_
        refine lv_iadd hx hb dX7_readGallery_86 ?_
        refine zx_putI hx hb hts hiX7 tyX7 tyX7_ok nmX7 hown hG shM_0 vc_7 14 (by decide) rfl L1 rfl (ty := .int) (tyX7_ok 14 (by decide)) rfl rfl dX7_readGallery_87 (fun H locs hG => ?_)
        refine lv_aload_n hx hb dX7_readGallery_90 rfl (lv_at hl 2 rfl) ?_
        refine zx_getR (d := 9) hx hb hts hiX7 hown hG shM_0 vc_7 18 (by decide) rfl L3 dX7_readGallery_91 ?_
        refine lv_iload_n hx hb dX7_readGallery_94 rfl (lv_at hl 0 rfl) ?_
        refine lv_iconst (v := (1 : Int32)) hx hb dX7_readGallery_95 (by decide) ?_
        refine lv_iadd hx hb dX7_readGallery_96 ?_
        refine lv_aload_n hx hb dX7_readGallery_97 rfl (lv_at hl 2 rfl) ?_
        refine lv_iload_n hx hb dX7_readGallery_98 rfl (lv_at hl 3 rfl) ?_
        refine lv_iconst (v := (0 : Int32)) hx hb dX7_readGallery_99 (by decide) ?_
        refine lv_bipush (v := (9 : Int32)) hx hb dX7_readGallery_100 (by decide) ?_
        obtain ⟨r_72, I_72, h_72, hf⟩ := zx_b hf
        refine zx_calli (va_runV (As := [.int x1, .int (0 : Int32), .int (9 : Int32)]) (rest := [.int (((4 : Int32) * (I 0 16)) + (1 : Int32)), .ref (ad 9)]) ⟨hx, hb, hml, hown, hts⟩ (mX7_digit l D ad cA x1 (0 : Int32) (9 : Int32) (zxU (zxU I 9 ((4 : Int32) * (I 0 16)).toNatClampNeg (0 : Int32)) 0 14 (((zxU I 9 ((4 : Int32) * (I 0 16)).toNatClampNeg (0 : Int32)) 0 14) + (1 : Int32))) r_72 I_72 h_72 _) (cwV 3 hts gX7_readGallery_X7_digit rfl rfl rfl hd_X7_digit ⟨Nat.le_of_ble_eq_true rfl, Nat.le_of_ble_eq_true rfl⟩) (zx_preV hG shM_0 vc_7) rfl rfl hl.1 rfl (lv_room (Nat.le_of_ble_eq_true rfl)) dX7_readGallery_102 ⟨Nat.le_refl _, Nat.le_refl _⟩) hG (fun H locs hG => ?_)
        obtain ⟨g_73, hf⟩ := zx_in hf
        refine zx_ast hx hb hG shM_9 g_73 dX7_readGallery_105 (fun H locs hG => ?_)
        refine lv_aload_n hx hb dX7_readGallery_106 rfl (lv_at hl 2 rfl) ?_
        refine zx_getR (d := 9) hx hb hts hiX7 hown hG shM_0 vc_7 18 (by decide) rfl L3 dX7_readGallery_107 ?_
        refine lv_iload_n hx hb dX7_readGallery_110 rfl (lv_at hl 0 rfl) ?_
        refine lv_iconst (v := (1 : Int32)) hx hb dX7_readGallery_111 (by decide) ?_
        refine lv_iadd hx hb dX7_readGallery_112 ?_
        refine zx_ald hx hb hG shM_9 g_73 dX7_readGallery_113 ?_
        refine lv_bipush (v := (-9 : Int32)) hx hb dX7_readGallery_114 (by decide) ?_
        refine lv_icmp_ne (tgt := 121) hx hb dX7_readGallery_116 (by decide) (fun c_75 => ?_) (fun c_75 => ?_)
        · have hf := zx_neg c_75 hf
          refine lv_aload_n hx hb dX7_readGallery_121 rfl (lv_at hl 2 rfl) ?_
          refine zx_getR (d := 9) hx hb hts hiX7 hown hG shM_0 vc_7 18 (by decide) rfl L3 dX7_readGallery_122 ?_
          refine lv_iload_n hx hb dX7_readGallery_125 rfl (lv_at hl 0 rfl) ?_
          refine lv_iconst (v := (2 : Int32)) hx hb dX7_readGallery_126 (by decide) ?_
          refine lv_iadd hx hb dX7_readGallery_127 ?_
          refine lv_aload_n hx hb dX7_readGallery_128 rfl (lv_at hl 2 rfl) ?_
          refine lv_iload_n hx hb dX7_readGallery_129 rfl (lv_at hl 3 rfl) ?_
          refine lv_iconst (v := (1 : Int32)) hx hb dX7_readGallery_130 (by decide) ?_
          refine lv_bipush (v := (9 : Int32)) hx hb dX7_readGallery_131 (by decide) ?_
          obtain ⟨r_76, I_76, h_76, hf⟩ := zx_b hf
          refine zx_calli (va_runV (As := [.int x1, .int (1 : Int32), .int (9 : Int32)]) (rest := [.int (((4 : Int32) * (I 0 16)) + (2 : Int32)), .ref (ad 9)]) ⟨hx, hb, hml, hown, hts⟩ (mX7_digit l D ad cA x1 (1 : Int32) (9 : Int32) (zxU I_72 9 (((4 : Int32) * (I 0 16)) + (1 : Int32)).toNatClampNeg r_72) r_76 I_76 h_76 _) (cwV 3 hts gX7_readGallery_X7_digit rfl rfl rfl hd_X7_digit ⟨Nat.le_of_ble_eq_true rfl, Nat.le_of_ble_eq_true rfl⟩) (zx_preV hG shM_0 vc_7) rfl rfl hl.1 rfl (lv_room (Nat.le_of_ble_eq_true rfl)) dX7_readGallery_133 ⟨Nat.le_refl _, Nat.le_refl _⟩) hG (fun H locs hG => ?_)
          obtain ⟨g_77, hf⟩ := zx_in hf
          refine zx_ast hx hb hG shM_9 g_77 dX7_readGallery_136 (fun H locs hG => ?_)
          refine lv_aload_n hx hb dX7_readGallery_137 rfl (lv_at hl 2 rfl) ?_
          refine zx_getR (d := 9) hx hb hts hiX7 hown hG shM_0 vc_7 18 (by decide) rfl L3 dX7_readGallery_138 ?_
          refine lv_iload_n hx hb dX7_readGallery_141 rfl (lv_at hl 0 rfl) ?_
          refine lv_iconst (v := (2 : Int32)) hx hb dX7_readGallery_142 (by decide) ?_
          refine lv_iadd hx hb dX7_readGallery_143 ?_
          refine zx_ald hx hb hG shM_9 g_77 dX7_readGallery_144 ?_
          refine lv_bipush (v := (-9 : Int32)) hx hb dX7_readGallery_145 (by decide) ?_
          refine lv_icmp_ne (tgt := 152) hx hb dX7_readGallery_147 (by decide) (fun c_79 => ?_) (fun c_79 => ?_)
          · have hf := zx_neg c_79 hf
            refine lv_aload_n hx hb dX7_readGallery_152 rfl (lv_at hl 2 rfl) ?_
            refine zx_getR (d := 9) hx hb hts hiX7 hown hG shM_0 vc_7 18 (by decide) rfl L3 dX7_readGallery_153 ?_
            refine lv_iload_n hx hb dX7_readGallery_156 rfl (lv_at hl 0 rfl) ?_
            refine lv_iconst (v := (3 : Int32)) hx hb dX7_readGallery_157 (by decide) ?_
            refine lv_iadd hx hb dX7_readGallery_158 ?_
            refine lv_aload_n hx hb dX7_readGallery_159 rfl (lv_at hl 2 rfl) ?_
            refine lv_iload_n hx hb dX7_readGallery_160 rfl (lv_at hl 3 rfl) ?_
            refine lv_iconst (v := (0 : Int32)) hx hb dX7_readGallery_161 (by decide) ?_
            refine lv_iconst (v := (1 : Int32)) hx hb dX7_readGallery_162 (by decide) ?_
            obtain ⟨r_80, I_80, h_80, hf⟩ := zx_b hf
            refine zx_calli (va_runV (As := [.int x1, .int (0 : Int32), .int (1 : Int32)]) (rest := [.int (((4 : Int32) * (I 0 16)) + (3 : Int32)), .ref (ad 9)]) ⟨hx, hb, hml, hown, hts⟩ (mX7_digit l D ad cA x1 (0 : Int32) (1 : Int32) (zxU I_76 9 (((4 : Int32) * (I 0 16)) + (2 : Int32)).toNatClampNeg r_76) r_80 I_80 h_80 _) (cwV 3 hts gX7_readGallery_X7_digit rfl rfl rfl hd_X7_digit ⟨Nat.le_of_ble_eq_true rfl, Nat.le_of_ble_eq_true rfl⟩) (zx_preV hG shM_0 vc_7) rfl rfl hl.1 rfl (lv_room (Nat.le_of_ble_eq_true rfl)) dX7_readGallery_163 ⟨Nat.le_refl _, Nat.le_refl _⟩) hG (fun H locs hG => ?_)
            obtain ⟨g_81, hf⟩ := zx_in hf
            refine zx_ast hx hb hG shM_9 g_81 dX7_readGallery_166 (fun H locs hG => ?_)
            refine lv_aload_n hx hb dX7_readGallery_167 rfl (lv_at hl 2 rfl) ?_
            refine lv_dup hx hb dX7_readGallery_168 rfl ?_
            refine zx_getI hx hb hts hiX7 hown hG shM_0 vc_7 16 (by decide) rfl L2 dX7_readGallery_169 ?_
            refine lv_iconst (v := (1 : Int32)) hx hb dX7_readGallery_172 (by decide) ?_
            refine lv_iadd hx hb dX7_readGallery_173 ?_
            refine zx_putI hx hb hts hiX7 tyX7 tyX7_ok nmX7 hown hG shM_0 vc_7 16 (by decide) rfl L2 rfl (ty := .int) (tyX7_ok 16 (by decide)) rfl rfl dX7_readGallery_174 (fun H locs hG => ?_)
            refine lv_aload_n hx hb dX7_readGallery_177 rfl (lv_at hl 2 rfl) ?_
            refine zx_getR (d := 9) hx hb hts hiX7 hown hG shM_0 vc_7 18 (by decide) rfl L3 dX7_readGallery_178 ?_
            refine lv_iload_n hx hb dX7_readGallery_181 rfl (lv_at hl 0 rfl) ?_
            refine lv_iconst (v := (3 : Int32)) hx hb dX7_readGallery_182 (by decide) ?_
            refine lv_iadd hx hb dX7_readGallery_183 ?_
            refine zx_ald hx hb hG shM_9 g_81 dX7_readGallery_184 ?_
            refine lv_bipush (v := (-9 : Int32)) hx hb dX7_readGallery_185 (by decide) ?_
            refine lv_icmp_eq (tgt := 194) hx hb dX7_readGallery_187 (by decide) (fun c_83 => ?_) (fun c_83 => ?_)
            · have hf := zx_pos c_83 hf
              refine lv_iconst (v := (0 : Int32)) hx hb dX7_readGallery_194 (by decide) ?_
              exact zx_iret hx hb hr hlocks rfl hG hf dX7_readGallery_195
            · have hf := zx_neg c_83 hf
              refine lv_iconst (v := (1 : Int32)) hx hb dX7_readGallery_190 (by decide) ?_
              refine lv_goto (tgt := 195) hx hb dX7_readGallery_191 (by decide) ?_
              exact zx_iret hx hb hr hlocks rfl hG hf dX7_readGallery_195
          · have hf := zx_pos c_79 hf
            refine lv_iconst (v := (0 : Int32)) hx hb dX7_readGallery_150 (by decide) ?_
            exact zx_iret hx hb hr hlocks rfl hG hf dX7_readGallery_151
        · have hf := zx_pos c_75 hf
          refine lv_iconst (v := (0 : Int32)) hx hb dX7_readGallery_119 (by decide) ?_
          exact zx_iret hx hb hr hlocks rfl hG hf dX7_readGallery_120
      · have hf := zx_pos c_71 hf
        refine lv_iconst (v := (0 : Int32)) hx hb dX7_readGallery_78 (by decide) ?_
        exact zx_iret hx hb hr hlocks rfl hG hf dX7_readGallery_79

set_option maxHeartbeats 4000000 in
set_option maxRecDepth 100000 in
theorem mX7_readMine (l : Launch) (D : va_G) (ad : Nat → Nat) (cA : Nat → ClassId) (x1 : Int32) (I : zxI) (r : Int32) (J : zxI) (hf : fX7_readMine x1 I = some (r, J)) (sz : Nat) : Met l yX7_readMine wsX7_readMine { frames := 3, cells := 0, slots := 0, locals := 68 } (va_Pc [.ref (ad 0), .int x1] (zxPre D shM ad cA I sz)) (va_Qi (fun (r2 : Int32) (I2 : zxI) => r2 = r ∧ I2 = J) (zxPost D shM ad cA sz) (zxA shM ad sz)) 0 0 (zxA shM ad sz) := by
  refine zx_start (by decide) rfl (Nat.le_of_ble_eq_true rfl) ?_
  intro p e s m args below meth c ls hx hb hr hts hown hlocks hml hG hl
  have hl : lv_has ls 2 [(0, .ref (ad 0)), (1, .int x1)] := hl
  have hiX7 : ∀ w ∈ wsX70, w ∈ wsX7_readMine := fun w h => List.mem_cons_of_mem _ (List.mem_append_right _ h)
  have L1 := hts (Cond.fieldLink RX7 98 "GalleryBirdsModel" "readGalleries" "I") (List.mem_of_getElem? (i := 1) rfl)
  have L2 := hts (Cond.fieldLink RX7 71 "GalleryBirdsModel" "at" "I") (List.mem_of_getElem? (i := 2) rfl)
  unfold fX7_readMine at hf
  refine lv_aload_n hx hb dX7_readMine_0 rfl (lv_at hl 0 rfl) ?_
  refine lv_iconst (v := (0 : Int32)) hx hb dX7_readMine_1 (by decide) ?_
  refine zx_putI hx hb hts hiX7 tyX7 tyX7_ok nmX7 hown hG shM_0 vc_7 16 (by decide) rfl L1 rfl (ty := .int) (tyX7_ok 16 (by decide)) rfl rfl dX7_readMine_2 (fun H locs hG => ?_)
  refine lv_aload_n hx hb dX7_readMine_5 rfl (lv_at hl 0 rfl) ?_
  refine lv_iload_n hx hb dX7_readMine_6 rfl (lv_at hl 1 rfl) ?_
  refine lv_bipush (v := (109 : Int32)) hx hb dX7_readMine_7 (by decide) ?_
  obtain ⟨r_1, I_1, h_1, hf⟩ := zx_b hf
  refine zx_calli (va_runV (As := [.int x1, .int (109 : Int32)]) (rest := []) ⟨hx, hb, hml, hown, hts⟩ (mX7_isSign l D ad cA x1 (109 : Int32) (zxU I 0 16 (0 : Int32)) r_1 I_1 h_1 _) (cwV 2 hts gX7_readMine_X7_isSign rfl rfl rfl hd_X7_isSign ⟨Nat.le_of_ble_eq_true rfl, Nat.le_of_ble_eq_true rfl⟩) (zx_preV hG shM_0 vc_7) rfl rfl hl.1 rfl (lv_room (Nat.le_of_ble_eq_true rfl)) dX7_readMine_9 ⟨Nat.le_refl _, Nat.le_refl _⟩) hG (fun H locs hG => ?_)
  refine lv_if_eq (tgt := 23) hx hb dX7_readMine_12 (by decide) (fun c_2 => ?_) (fun c_2 => ?_)
  · have hf := zx_pos c_2 hf
    refine lv_iconst (v := (0 : Int32)) hx hb dX7_readMine_23 (by decide) ?_
    exact zx_iret hx hb hr hlocks rfl hG hf dX7_readMine_24
  · have hf := zx_neg c_2 hf
    refine lv_aload_n hx hb dX7_readMine_15 rfl (lv_at hl 0 rfl) ?_
    refine lv_iload_n hx hb dX7_readMine_16 rfl (lv_at hl 1 rfl) ?_
    obtain ⟨r_3, I_3, h_3, hf⟩ := zx_b hf
    refine zx_calli (va_runV (As := [.int x1]) (rest := []) ⟨hx, hb, hml, hown, hts⟩ (mX7_readTheWords l D ad cA x1 I_1 r_3 I_3 h_3 _) (cwV 1 hts gX7_readMine_X7_readTheWords rfl rfl rfl hd_X7_readTheWords ⟨Nat.le_of_ble_eq_true rfl, Nat.le_of_ble_eq_true rfl⟩) (zx_preV hG shM_0 vc_7) rfl rfl hl.1 rfl (lv_room (Nat.le_of_ble_eq_true rfl)) dX7_readMine_17 ⟨Nat.le_refl _, Nat.le_refl _⟩) hG (fun H locs hG => ?_)
    refine lv_if_ne (tgt := 25) hx hb dX7_readMine_20 (by decide) (fun c_4 => ?_) (fun c_4 => ?_)
    · have hf := zx_neg c_4 hf
      have loop25 : ∀ (n : Nat) (v1 : Int32) (I : zxI) (H : Heap) (locs : List Loc) (ls : Array Slot), fX7_readMine_L25 n v1 I = some (r, J) → zxAt D shM ad cA I s sz H locs → lv_has ls 2 [(0, .ref (ad 0)), (1, .int v1)] → W p l e (headSpec wsX7_readMine { frames := 3, cells := 0, slots := 0, locals := 68 }).room s m args below meth c H locs 0 0 (MQ below (va_Qi (fun (r2 : Int32) (I2 : zxI) => r2 = r ∧ I2 = J) (zxPost D shM ad cA sz) (zxA shM ad sz)) args s 0 0 (zxA shM ad sz)) (F0 m 25 ls []) := by
        intro n
        induction n with
        | zero =>
          intro v1 I H locs ls hf hG hl
          rw [fX7_readMine_L25] at hf
          cases hf
        | succ n25 ih25 =>
          intro v1 I H locs ls hf hG hl
          rw [fX7_readMine_L25] at hf
          refine lv_aload_n hx hb dX7_readMine_25 rfl (lv_at hl 0 rfl) ?_
          refine zx_getI hx hb hts hiX7 hown hG shM_0 vc_7 16 (by decide) rfl L1 dX7_readMine_26 ?_
          refine lv_iconst (v := (2 : Int32)) hx hb dX7_readMine_29 (by decide) ?_
          refine lv_icmp_lt (tgt := 50) hx hb dX7_readMine_30 (by decide) (fun c_5 => ?_) (fun c_5 => ?_)
          · have hf := zx_pos c_5 hf
            refine lv_aload_n hx hb dX7_readMine_50 rfl (lv_at hl 0 rfl) ?_
            refine lv_iload_n hx hb dX7_readMine_51 rfl (lv_at hl 1 rfl) ?_
            refine lv_bipush (v := (59 : Int32)) hx hb dX7_readMine_52 (by decide) ?_
            obtain ⟨r_6, I_6, h_6, hf⟩ := zx_b hf
            refine zx_calli (va_runV (As := [.int v1, .int (59 : Int32)]) (rest := []) ⟨hx, hb, hml, hown, hts⟩ (mX7_isSign l D ad cA v1 (59 : Int32) I r_6 I_6 h_6 _) (cwV 2 hts gX7_readMine_X7_isSign rfl rfl rfl hd_X7_isSign ⟨Nat.le_of_ble_eq_true rfl, Nat.le_of_ble_eq_true rfl⟩) (zx_preV hG shM_0 vc_7) rfl rfl hl.1 rfl (lv_room (Nat.le_of_ble_eq_true rfl)) dX7_readMine_54 ⟨Nat.le_refl _, Nat.le_refl _⟩) hG (fun H locs hG => ?_)
            refine lv_if_eq (tgt := 68) hx hb dX7_readMine_57 (by decide) (fun c_7 => ?_) (fun c_7 => ?_)
            · have hf := zx_pos c_7 hf
              refine lv_iconst (v := (0 : Int32)) hx hb dX7_readMine_68 (by decide) ?_
              exact zx_iret hx hb hr hlocks rfl hG hf dX7_readMine_69
            · have hf := zx_neg c_7 hf
              refine lv_aload_n hx hb dX7_readMine_60 rfl (lv_at hl 0 rfl) ?_
              refine lv_iload_n hx hb dX7_readMine_61 rfl (lv_at hl 1 rfl) ?_
              obtain ⟨r_8, I_8, h_8, hf⟩ := zx_b hf
              refine zx_calli (va_runV (As := [.int v1]) (rest := []) ⟨hx, hb, hml, hown, hts⟩ (mX7_readGallery l D ad cA v1 I_6 r_8 I_8 h_8 _) (cwV 1 hts gX7_readMine_X7_readGallery rfl rfl rfl hd_X7_readGallery ⟨Nat.le_of_ble_eq_true rfl, Nat.le_of_ble_eq_true rfl⟩) (zx_preV hG shM_0 vc_7) rfl rfl hl.1 rfl (lv_room (Nat.le_of_ble_eq_true rfl)) dX7_readMine_62 ⟨Nat.le_refl _, Nat.le_refl _⟩) hG (fun H locs hG => ?_)
              refine lv_if_ne (tgt := 25) hx hb dX7_readMine_65 (by decide) (fun c_9 => ?_) (fun c_9 => ?_)
              · have hf := zx_neg c_9 hf
                exact ih25 v1 I_8 _ _ ls hf hG (lv_sub hl [0, 1] rfl)
              · have hf := zx_pos c_9 hf
                refine lv_iconst (v := (0 : Int32)) hx hb dX7_readMine_68 (by decide) ?_
                exact zx_iret hx hb hr hlocks rfl hG hf dX7_readMine_69
          · have hf := zx_neg c_5 hf
            refine lv_aload_n hx hb dX7_readMine_33 rfl (lv_at hl 0 rfl) ?_
            refine zx_getI hx hb hts hiX7 hown hG shM_0 vc_7 16 (by decide) rfl L1 dX7_readMine_34 ?_
            refine lv_bipush (v := (6 : Int32)) hx hb dX7_readMine_37 (by decide) ?_
            refine lv_icmp_ge (tgt := 70) hx hb dX7_readMine_39 (by decide) (fun c_10 => ?_) (fun c_10 => ?_)
            · have hf := zx_pos c_10 hf
              refine lv_aload_n hx hb dX7_readMine_70 rfl (lv_at hl 0 rfl) ?_
              refine zx_getI hx hb hts hiX7 hown hG shM_0 vc_7 14 (by decide) rfl L2 dX7_readMine_71 ?_
              refine lv_iload_n hx hb dX7_readMine_74 rfl (lv_at hl 1 rfl) ?_
              refine lv_icmp_ne (tgt := 82) hx hb dX7_readMine_75 (by decide) (fun c_11 => ?_) (fun c_11 => ?_)
              · have hf := zx_neg c_11 hf
                refine lv_iconst (v := (0 : Int32)) hx hb dX7_readMine_82 (by decide) ?_
                exact zx_iret hx hb hr hlocks rfl hG hf dX7_readMine_83
              · have hf := zx_pos c_11 hf
                refine lv_iconst (v := (1 : Int32)) hx hb dX7_readMine_78 (by decide) ?_
                refine lv_goto (tgt := 83) hx hb dX7_readMine_79 (by decide) ?_
                exact zx_iret hx hb hr hlocks rfl hG hf dX7_readMine_83
            · have hf := zx_neg c_10 hf
              refine lv_aload_n hx hb dX7_readMine_42 rfl (lv_at hl 0 rfl) ?_
              refine zx_getI hx hb hts hiX7 hown hG shM_0 vc_7 14 (by decide) rfl L2 dX7_readMine_43 ?_
              refine lv_iload_n hx hb dX7_readMine_46 rfl (lv_at hl 1 rfl) ?_
              refine lv_icmp_ge (tgt := 70) hx hb dX7_readMine_47 (by decide) (fun c_12 => ?_) (fun c_12 => ?_)
              · have hf := zx_pos c_12 hf
                refine lv_aload_n hx hb dX7_readMine_70 rfl (lv_at hl 0 rfl) ?_
                refine zx_getI hx hb hts hiX7 hown hG shM_0 vc_7 14 (by decide) rfl L2 dX7_readMine_71 ?_
                refine lv_iload_n hx hb dX7_readMine_74 rfl (lv_at hl 1 rfl) ?_
                refine lv_icmp_ne (tgt := 82) hx hb dX7_readMine_75 (by decide) (fun c_13 => ?_) (fun c_13 => ?_)
                · have hf := zx_neg c_13 hf
                  refine lv_iconst (v := (0 : Int32)) hx hb dX7_readMine_82 (by decide) ?_
                  exact zx_iret hx hb hr hlocks rfl hG hf dX7_readMine_83
                · have hf := zx_pos c_13 hf
                  refine lv_iconst (v := (1 : Int32)) hx hb dX7_readMine_78 (by decide) ?_
                  refine lv_goto (tgt := 83) hx hb dX7_readMine_79 (by decide) ?_
                  exact zx_iret hx hb hr hlocks rfl hG hf dX7_readMine_83
              · have hf := zx_neg c_12 hf
                refine lv_aload_n hx hb dX7_readMine_50 rfl (lv_at hl 0 rfl) ?_
                refine lv_iload_n hx hb dX7_readMine_51 rfl (lv_at hl 1 rfl) ?_
                refine lv_bipush (v := (59 : Int32)) hx hb dX7_readMine_52 (by decide) ?_
                obtain ⟨r_14, I_14, h_14, hf⟩ := zx_b hf
                refine zx_calli (va_runV (As := [.int v1, .int (59 : Int32)]) (rest := []) ⟨hx, hb, hml, hown, hts⟩ (mX7_isSign l D ad cA v1 (59 : Int32) I r_14 I_14 h_14 _) (cwV 2 hts gX7_readMine_X7_isSign rfl rfl rfl hd_X7_isSign ⟨Nat.le_of_ble_eq_true rfl, Nat.le_of_ble_eq_true rfl⟩) (zx_preV hG shM_0 vc_7) rfl rfl hl.1 rfl (lv_room (Nat.le_of_ble_eq_true rfl)) dX7_readMine_54 ⟨Nat.le_refl _, Nat.le_refl _⟩) hG (fun H locs hG => ?_)
                refine lv_if_eq (tgt := 68) hx hb dX7_readMine_57 (by decide) (fun c_15 => ?_) (fun c_15 => ?_)
                · have hf := zx_pos c_15 hf
                  refine lv_iconst (v := (0 : Int32)) hx hb dX7_readMine_68 (by decide) ?_
                  exact zx_iret hx hb hr hlocks rfl hG hf dX7_readMine_69
                · have hf := zx_neg c_15 hf
                  refine lv_aload_n hx hb dX7_readMine_60 rfl (lv_at hl 0 rfl) ?_
                  refine lv_iload_n hx hb dX7_readMine_61 rfl (lv_at hl 1 rfl) ?_
                  obtain ⟨r_16, I_16, h_16, hf⟩ := zx_b hf
                  refine zx_calli (va_runV (As := [.int v1]) (rest := []) ⟨hx, hb, hml, hown, hts⟩ (mX7_readGallery l D ad cA v1 I_14 r_16 I_16 h_16 _) (cwV 1 hts gX7_readMine_X7_readGallery rfl rfl rfl hd_X7_readGallery ⟨Nat.le_of_ble_eq_true rfl, Nat.le_of_ble_eq_true rfl⟩) (zx_preV hG shM_0 vc_7) rfl rfl hl.1 rfl (lv_room (Nat.le_of_ble_eq_true rfl)) dX7_readMine_62 ⟨Nat.le_refl _, Nat.le_refl _⟩) hG (fun H locs hG => ?_)
                  refine lv_if_ne (tgt := 25) hx hb dX7_readMine_65 (by decide) (fun c_17 => ?_) (fun c_17 => ?_)
                  · have hf := zx_neg c_17 hf
                    exact ih25 v1 I_16 _ _ ls hf hG (lv_sub hl [0, 1] rfl)
                  · have hf := zx_pos c_17 hf
                    refine lv_iconst (v := (0 : Int32)) hx hb dX7_readMine_68 (by decide) ?_
                    exact zx_iret hx hb hr hlocks rfl hG hf dX7_readMine_69
      exact loop25 _ x1 I_3 _ _ ls hf hG (lv_sub hl [0, 1] rfl)
    · have hf := zx_pos c_4 hf
      refine lv_iconst (v := (0 : Int32)) hx hb dX7_readMine_23 (by decide) ?_
      exact zx_iret hx hb hr hlocks rfl hG hf dX7_readMine_24

set_option maxHeartbeats 4000000 in
set_option maxRecDepth 100000 in
theorem mX7_takeMine (l : Launch) (D : va_G) (ad : Nat → Nat) (cA : Nat → ClassId) (I : zxI) (J : zxI) (hf : fX7_takeMine I = some J) (sz : Nat) : Met l yX7_takeMine wsX7_takeMine { frames := 0, cells := 0, slots := 0, locals := 0 } (va_Pc [.ref (ad 0)] (zxPre D shM ad cA I sz)) (va_Qv (fun (I2 : zxI) => I2 = J) (zxPost D shM ad cA sz) (zxA shM ad sz)) 0 0 (zxA shM ad sz) := by
  refine zx_start (by decide) rfl (Nat.le_of_ble_eq_true rfl) ?_
  intro p e s m args below meth c ls hx hb hr hts hown hlocks hml hG hl
  have hl : lv_has ls 2 [(0, .ref (ad 0))] := hl
  have hiX7 : ∀ w ∈ wsX70, w ∈ wsX7_takeMine := fun w h => List.mem_cons_of_mem _ (List.mem_append_right _ h)
  have L1 := hts (Cond.fieldLink RX7 95 "GalleryBirdsModel" "readWords" "I") (List.mem_of_getElem? (i := 1) rfl)
  have L2 := hts (Cond.fieldLink RX7 68 "GalleryBirdsModel" "words" "I") (List.mem_of_getElem? (i := 2) rfl)
  have L3 := hts (Cond.fieldLink RX7 98 "GalleryBirdsModel" "readGalleries" "I") (List.mem_of_getElem? (i := 5) rfl)
  have L4 := hts (Cond.fieldLink RX7 65 "GalleryBirdsModel" "galleries" "I") (List.mem_of_getElem? (i := 6) rfl)
  have L5 := hts (Cond.fieldLink RX7 101 "GalleryBirdsModel" "doors" "I") (List.mem_of_getElem? (i := 7) rfl)
  have L6 := hts (Cond.fieldLink RX7 104 "GalleryBirdsModel" "breaths" "I") (List.mem_of_getElem? (i := 12) rfl)
  have L7 := hts (Cond.fieldLink RX7 107 "GalleryBirdsModel" "down" "I") (List.mem_of_getElem? (i := 13) rfl)
  have L8 := hts (Cond.fieldLink RX7 110 "GalleryBirdsModel" "readings" "I") (List.mem_of_getElem? (i := 14) rfl)
  have L9 := hts (Cond.fieldLink RX7 22 "GalleryBirdsModel" "kind" "[I") (List.mem_of_getElem? (i := 8) rfl)
  have L10 := hts (Cond.fieldLink RX7 34 "GalleryBirdsModel" "read" "[I") (List.mem_of_getElem? (i := 9) rfl)
  have L11 := hts (Cond.fieldLink RX7 25 "GalleryBirdsModel" "foulNow" "[I") (List.mem_of_getElem? (i := 10) rfl)
  have L12 := hts (Cond.fieldLink RX7 28 "GalleryBirdsModel" "strength" "[I") (List.mem_of_getElem? (i := 11) rfl)
  have L13 := hts (Cond.fieldLink RX7 19 "GalleryBirdsModel" "badOf" "[I") (List.mem_of_getElem? (i := 3) rfl)
  have L14 := hts (Cond.fieldLink RX7 31 "GalleryBirdsModel" "readBad" "[I") (List.mem_of_getElem? (i := 4) rfl)
  unfold fX7_takeMine at hf
  refine lv_aload_n hx hb dX7_takeMine_0 rfl (lv_at hl 0 rfl) ?_
  refine lv_aload_n hx hb dX7_takeMine_1 rfl (lv_at hl 0 rfl) ?_
  refine zx_getI hx hb hts hiX7 hown hG shM_0 vc_7 15 (by decide) rfl L1 dX7_takeMine_2 ?_
  refine zx_putI hx hb hts hiX7 tyX7 tyX7_ok nmX7 hown hG shM_0 vc_7 6 (by decide) rfl L2 rfl (ty := .int) (tyX7_ok 6 (by decide)) rfl rfl dX7_takeMine_5 (fun H locs hG => ?_)
  refine lv_iconst (v := (0 : Int32)) hx hb dX7_takeMine_8 (by decide) ?_
  refine lv_istore_n (lv' := [(1, .int (0 : Int32)), (0, .ref (ad 0))]) hx hb dX7_takeMine_9 rfl hl (by decide) rfl (fun ls hl => ?_)
  have loop10 : ∀ (n : Nat) (v1 : Int32) (I : zxI) (H : Heap) (locs : List Loc) (ls : Array Slot), fX7_takeMine_L10 n v1 I = some J → zxAt D shM ad cA I s sz H locs → lv_has ls 2 [(0, .ref (ad 0)), (1, .int v1)] → W p l e (headSpec wsX7_takeMine { frames := 0, cells := 0, slots := 0, locals := 0 }).room s m args below meth c H locs 0 0 (MQ below (va_Qv (fun (I2 : zxI) => I2 = J) (zxPost D shM ad cA sz) (zxA shM ad sz)) args s 0 0 (zxA shM ad sz)) (F0 m 10 ls []) := by
    intro n
    induction n with
    | zero =>
      intro v1 I H locs ls hf hG hl
      rw [fX7_takeMine_L10] at hf
      cases hf
    | succ n10 ih10 =>
      intro v1 I H locs ls hf hG hl
      rw [fX7_takeMine_L10] at hf
      refine lv_iload_n hx hb dX7_takeMine_10 rfl (lv_at hl 1 rfl) ?_
      refine lv_aload_n hx hb dX7_takeMine_11 rfl (lv_at hl 0 rfl) ?_
      refine zx_getI hx hb hts hiX7 hown hG shM_0 vc_7 6 (by decide) rfl L2 dX7_takeMine_12 ?_
      refine lv_icmp_ge (tgt := 36) hx hb dX7_takeMine_15 (by decide) (fun c_1 => ?_) (fun c_1 => ?_)
      · have hf := zx_pos c_1 hf
        refine lv_aload_n hx hb dX7_takeMine_36 rfl (lv_at hl 0 rfl) ?_
        refine lv_aload_n hx hb dX7_takeMine_37 rfl (lv_at hl 0 rfl) ?_
        refine zx_getI hx hb hts hiX7 hown hG shM_0 vc_7 16 (by decide) rfl L3 dX7_takeMine_38 ?_
        refine zx_putI hx hb hts hiX7 tyX7 tyX7_ok nmX7 hown hG shM_0 vc_7 5 (by decide) rfl L4 rfl (ty := .int) (tyX7_ok 5 (by decide)) rfl rfl dX7_takeMine_41 (fun H locs hG => ?_)
        refine lv_aload_n hx hb dX7_takeMine_44 rfl (lv_at hl 0 rfl) ?_
        refine lv_iconst (v := (0 : Int32)) hx hb dX7_takeMine_45 (by decide) ?_
        refine zx_putI hx hb hts hiX7 tyX7 tyX7_ok nmX7 hown hG shM_0 vc_7 9 (by decide) rfl L5 rfl (ty := .int) (tyX7_ok 9 (by decide)) rfl rfl dX7_takeMine_46 (fun H locs hG => ?_)
        refine lv_iconst (v := (0 : Int32)) hx hb dX7_takeMine_49 (by decide) ?_
        refine lv_istore_n (lv' := [(1, .int (0 : Int32)), (0, .ref (ad 0))]) hx hb dX7_takeMine_50 rfl hl (by decide) rfl (fun ls hl => ?_)
        have loop51 : ∀ (n : Nat) (v1 : Int32) (I : zxI) (H : Heap) (locs : List Loc) (ls : Array Slot), fX7_takeMine_L51 n v1 I = some J → zxAt D shM ad cA I s sz H locs → lv_has ls 2 [(0, .ref (ad 0)), (1, .int v1)] → W p l e (headSpec wsX7_takeMine { frames := 0, cells := 0, slots := 0, locals := 0 }).room s m args below meth c H locs 0 0 (MQ below (va_Qv (fun (I2 : zxI) => I2 = J) (zxPost D shM ad cA sz) (zxA shM ad sz)) args s 0 0 (zxA shM ad sz)) (F0 m 51 ls []) := by
          intro n
          induction n with
          | zero =>
            intro v1 I H locs ls hf hG hl
            rw [fX7_takeMine_L51] at hf
            cases hf
          | succ n51 ih51 =>
            intro v1 I H locs ls hf hG hl
            rw [fX7_takeMine_L51] at hf
            refine lv_iload_n hx hb dX7_takeMine_51 rfl (lv_at hl 1 rfl) ?_
            refine lv_aload_n hx hb dX7_takeMine_52 rfl (lv_at hl 0 rfl) ?_
            refine zx_getI hx hb hts hiX7 hown hG shM_0 vc_7 5 (by decide) rfl L4 dX7_takeMine_53 ?_
            refine lv_icmp_ge (tgt := 151) hx hb dX7_takeMine_56 (by decide) (fun c_2 => ?_) (fun c_2 => ?_)
            · have hf := zx_pos c_2 hf
              refine lv_aload_n hx hb dX7_takeMine_151 rfl (lv_at hl 0 rfl) ?_
              refine lv_iconst (v := (0 : Int32)) hx hb dX7_takeMine_152 (by decide) ?_
              refine zx_putI hx hb hts hiX7 tyX7 tyX7_ok nmX7 hown hG shM_0 vc_7 7 (by decide) rfl L6 rfl (ty := .int) (tyX7_ok 7 (by decide)) rfl rfl dX7_takeMine_153 (fun H locs hG => ?_)
              refine lv_aload_n hx hb dX7_takeMine_156 rfl (lv_at hl 0 rfl) ?_
              refine lv_iconst (v := (0 : Int32)) hx hb dX7_takeMine_157 (by decide) ?_
              refine zx_putI hx hb hts hiX7 tyX7 tyX7_ok nmX7 hown hG shM_0 vc_7 8 (by decide) rfl L7 rfl (ty := .int) (tyX7_ok 8 (by decide)) rfl rfl dX7_takeMine_158 (fun H locs hG => ?_)
              refine lv_aload_n hx hb dX7_takeMine_161 rfl (lv_at hl 0 rfl) ?_
              refine lv_iconst (v := (0 : Int32)) hx hb dX7_takeMine_162 (by decide) ?_
              refine zx_putI hx hb hts hiX7 tyX7 tyX7_ok nmX7 hown hG shM_0 vc_7 25 (by decide) rfl L8 rfl (ty := .int) (tyX7_ok 25 (by decide)) rfl rfl dX7_takeMine_163 (fun H locs hG => ?_)
              exact zx_vret hx hb hr hlocks hG hf dX7_takeMine_166
            · have hf := zx_neg c_2 hf
              refine lv_aload_n hx hb dX7_takeMine_59 rfl (lv_at hl 0 rfl) ?_
              refine zx_getR (d := 5) hx hb hts hiX7 hown hG shM_0 vc_7 11 (by decide) rfl L9 dX7_takeMine_60 ?_
              refine lv_iload_n hx hb dX7_takeMine_63 rfl (lv_at hl 1 rfl) ?_
              refine lv_aload_n hx hb dX7_takeMine_64 rfl (lv_at hl 0 rfl) ?_
              refine zx_getR (d := 9) hx hb hts hiX7 hown hG shM_0 vc_7 18 (by decide) rfl L10 dX7_takeMine_65 ?_
              refine lv_iconst (v := (4 : Int32)) hx hb dX7_takeMine_68 (by decide) ?_
              refine lv_iload_n hx hb dX7_takeMine_69 rfl (lv_at hl 1 rfl) ?_
              refine lv_imul hx hb dX7_takeMine_70 ?_
              obtain ⟨g_3, hf⟩ := zx_in hf
              refine zx_ald hx hb hG shM_9 g_3 dX7_takeMine_71 ?_
              obtain ⟨g_4, hf⟩ := zx_in hf
              refine zx_ast hx hb hG shM_5 g_4 dX7_takeMine_72 (fun H locs hG => ?_)
              refine lv_aload_n hx hb dX7_takeMine_73 rfl (lv_at hl 0 rfl) ?_
              refine zx_getR (d := 6) hx hb hts hiX7 hown hG shM_0 vc_7 12 (by decide) rfl L11 dX7_takeMine_74 ?_
              refine lv_iload_n hx hb dX7_takeMine_77 rfl (lv_at hl 1 rfl) ?_
              refine lv_aload_n hx hb dX7_takeMine_78 rfl (lv_at hl 0 rfl) ?_
              refine zx_getR (d := 9) hx hb hts hiX7 hown hG shM_0 vc_7 18 (by decide) rfl L10 dX7_takeMine_79 ?_
              refine lv_iconst (v := (4 : Int32)) hx hb dX7_takeMine_82 (by decide) ?_
              refine lv_iload_n hx hb dX7_takeMine_83 rfl (lv_at hl 1 rfl) ?_
              refine lv_imul hx hb dX7_takeMine_84 ?_
              refine lv_iconst (v := (1 : Int32)) hx hb dX7_takeMine_85 (by decide) ?_
              refine lv_iadd hx hb dX7_takeMine_86 ?_
              obtain ⟨g_5, hf⟩ := zx_in hf
              refine zx_ald hx hb hG shM_9 g_5 dX7_takeMine_87 ?_
              refine zx_ast hx hb hG shM_6 g_4 dX7_takeMine_88 (fun H locs hG => ?_)
              refine lv_aload_n hx hb dX7_takeMine_89 rfl (lv_at hl 0 rfl) ?_
              refine zx_getR (d := 7) hx hb hts hiX7 hown hG shM_0 vc_7 13 (by decide) rfl L12 dX7_takeMine_90 ?_
              refine lv_iload_n hx hb dX7_takeMine_93 rfl (lv_at hl 1 rfl) ?_
              refine lv_aload_n hx hb dX7_takeMine_94 rfl (lv_at hl 0 rfl) ?_
              refine zx_getR (d := 9) hx hb hts hiX7 hown hG shM_0 vc_7 18 (by decide) rfl L10 dX7_takeMine_95 ?_
              refine lv_iconst (v := (4 : Int32)) hx hb dX7_takeMine_98 (by decide) ?_
              refine lv_iload_n hx hb dX7_takeMine_99 rfl (lv_at hl 1 rfl) ?_
              refine lv_imul hx hb dX7_takeMine_100 ?_
              refine lv_iconst (v := (2 : Int32)) hx hb dX7_takeMine_101 (by decide) ?_
              refine lv_iadd hx hb dX7_takeMine_102 ?_
              obtain ⟨g_7, hf⟩ := zx_in hf
              refine zx_ald hx hb hG shM_9 g_7 dX7_takeMine_103 ?_
              refine zx_ast hx hb hG shM_7 g_4 dX7_takeMine_104 (fun H locs hG => ?_)
              refine lv_aload_n hx hb dX7_takeMine_105 rfl (lv_at hl 0 rfl) ?_
              refine lv_dup hx hb dX7_takeMine_106 rfl ?_
              refine zx_getI hx hb hts hiX7 hown hG shM_0 vc_7 9 (by decide) rfl L5 dX7_takeMine_107 ?_
              refine lv_aload_n hx hb dX7_takeMine_110 rfl (lv_at hl 0 rfl) ?_
              refine zx_getR (d := 9) hx hb hts hiX7 hown hG shM_0 vc_7 18 (by decide) rfl L10 dX7_takeMine_111 ?_
              refine lv_iconst (v := (4 : Int32)) hx hb dX7_takeMine_114 (by decide) ?_
              refine lv_iload_n hx hb dX7_takeMine_115 rfl (lv_at hl 1 rfl) ?_
              refine lv_imul hx hb dX7_takeMine_116 ?_
              refine lv_iconst (v := (3 : Int32)) hx hb dX7_takeMine_117 (by decide) ?_
              refine lv_iadd hx hb dX7_takeMine_118 ?_
              obtain ⟨g_9, hf⟩ := zx_in hf
              refine zx_ald hx hb hG shM_9 g_9 dX7_takeMine_119 ?_
              refine lv_iconst (v := (1 : Int32)) hx hb dX7_takeMine_120 (by decide) ?_
              refine lv_icmp_ne (tgt := 140) hx hb dX7_takeMine_121 (by decide) (fun c_10 => ?_) (fun c_10 => ?_)
              · have hf := zx_neg c_10 hf
                refine lv_iconst (v := (0 : Int32)) hx hb dX7_takeMine_140 (by decide) ?_
                refine lv_ior hx hb dX7_takeMine_141 ?_
                refine zx_putI hx hb hts hiX7 tyX7 tyX7_ok nmX7 hown hG shM_0 vc_7 9 (by decide) rfl L5 rfl (ty := .int) (tyX7_ok 9 (by decide)) rfl rfl dX7_takeMine_142 (fun H locs hG => ?_)
                refine lv_iinc (v := (v1 + (1 : Int32))) (lv' := [(1, .int (v1 + (1 : Int32))), (0, .ref (ad 0))]) hx hb dX7_takeMine_145 hl (k := 1) rfl (congrArg (HAdd.hAdd v1) (by decide)) (by decide) rfl (fun ls hl => ?_)
                refine lv_goto (tgt := 51) hx hb dX7_takeMine_148 (by decide) ?_
                exact ih51 (v1 + (1 : Int32)) (zxU (zxU (zxU (zxU I 5 v1.toNatClampNeg (I 9 ((4 : Int32) * v1).toNatClampNeg)) 6 v1.toNatClampNeg ((zxU I 5 v1.toNatClampNeg (I 9 ((4 : Int32) * v1).toNatClampNeg)) 9 (((4 : Int32) * v1) + (1 : Int32)).toNatClampNeg)) 7 v1.toNatClampNeg ((zxU (zxU I 5 v1.toNatClampNeg (I 9 ((4 : Int32) * v1).toNatClampNeg)) 6 v1.toNatClampNeg ((zxU I 5 v1.toNatClampNeg (I 9 ((4 : Int32) * v1).toNatClampNeg)) 9 (((4 : Int32) * v1) + (1 : Int32)).toNatClampNeg)) 9 (((4 : Int32) * v1) + (2 : Int32)).toNatClampNeg)) 0 9 (((zxU (zxU (zxU I 5 v1.toNatClampNeg (I 9 ((4 : Int32) * v1).toNatClampNeg)) 6 v1.toNatClampNeg ((zxU I 5 v1.toNatClampNeg (I 9 ((4 : Int32) * v1).toNatClampNeg)) 9 (((4 : Int32) * v1) + (1 : Int32)).toNatClampNeg)) 7 v1.toNatClampNeg ((zxU (zxU I 5 v1.toNatClampNeg (I 9 ((4 : Int32) * v1).toNatClampNeg)) 6 v1.toNatClampNeg ((zxU I 5 v1.toNatClampNeg (I 9 ((4 : Int32) * v1).toNatClampNeg)) 9 (((4 : Int32) * v1) + (1 : Int32)).toNatClampNeg)) 9 (((4 : Int32) * v1) + (2 : Int32)).toNatClampNeg)) 0 9) ||| (0 : Int32))) _ _ ls hf hG (lv_sub hl [1, 0] rfl)
              · have hf := zx_pos c_10 hf
                refine lv_iload_n hx hb dX7_takeMine_124 rfl (lv_at hl 1 rfl) ?_
                refine lv_aload_n hx hb dX7_takeMine_125 rfl (lv_at hl 0 rfl) ?_
                refine zx_getI hx hb hts hiX7 hown hG shM_0 vc_7 5 (by decide) rfl L4 dX7_takeMine_126 ?_
                refine lv_iconst (v := (1 : Int32)) hx hb dX7_takeMine_129 (by decide) ?_
                refine lv_isub hx hb dX7_takeMine_130 ?_
                refine lv_icmp_ge (tgt := 140) hx hb dX7_takeMine_131 (by decide) (fun c_11 => ?_) (fun c_11 => ?_)
                · have hf := zx_pos c_11 hf
                  refine lv_iconst (v := (0 : Int32)) hx hb dX7_takeMine_140 (by decide) ?_
                  refine lv_ior hx hb dX7_takeMine_141 ?_
                  refine zx_putI hx hb hts hiX7 tyX7 tyX7_ok nmX7 hown hG shM_0 vc_7 9 (by decide) rfl L5 rfl (ty := .int) (tyX7_ok 9 (by decide)) rfl rfl dX7_takeMine_142 (fun H locs hG => ?_)
                  refine lv_iinc (v := (v1 + (1 : Int32))) (lv' := [(1, .int (v1 + (1 : Int32))), (0, .ref (ad 0))]) hx hb dX7_takeMine_145 hl (k := 1) rfl (congrArg (HAdd.hAdd v1) (by decide)) (by decide) rfl (fun ls hl => ?_)
                  refine lv_goto (tgt := 51) hx hb dX7_takeMine_148 (by decide) ?_
                  exact ih51 (v1 + (1 : Int32)) (zxU (zxU (zxU (zxU I 5 v1.toNatClampNeg (I 9 ((4 : Int32) * v1).toNatClampNeg)) 6 v1.toNatClampNeg ((zxU I 5 v1.toNatClampNeg (I 9 ((4 : Int32) * v1).toNatClampNeg)) 9 (((4 : Int32) * v1) + (1 : Int32)).toNatClampNeg)) 7 v1.toNatClampNeg ((zxU (zxU I 5 v1.toNatClampNeg (I 9 ((4 : Int32) * v1).toNatClampNeg)) 6 v1.toNatClampNeg ((zxU I 5 v1.toNatClampNeg (I 9 ((4 : Int32) * v1).toNatClampNeg)) 9 (((4 : Int32) * v1) + (1 : Int32)).toNatClampNeg)) 9 (((4 : Int32) * v1) + (2 : Int32)).toNatClampNeg)) 0 9 (((zxU (zxU (zxU I 5 v1.toNatClampNeg (I 9 ((4 : Int32) * v1).toNatClampNeg)) 6 v1.toNatClampNeg ((zxU I 5 v1.toNatClampNeg (I 9 ((4 : Int32) * v1).toNatClampNeg)) 9 (((4 : Int32) * v1) + (1 : Int32)).toNatClampNeg)) 7 v1.toNatClampNeg ((zxU (zxU I 5 v1.toNatClampNeg (I 9 ((4 : Int32) * v1).toNatClampNeg)) 6 v1.toNatClampNeg ((zxU I 5 v1.toNatClampNeg (I 9 ((4 : Int32) * v1).toNatClampNeg)) 9 (((4 : Int32) * v1) + (1 : Int32)).toNatClampNeg)) 9 (((4 : Int32) * v1) + (2 : Int32)).toNatClampNeg)) 0 9) ||| (0 : Int32))) _ _ ls hf hG (lv_sub hl [1, 0] rfl)
                · have hf := zx_neg c_11 hf
                  refine lv_iconst (v := (1 : Int32)) hx hb dX7_takeMine_134 (by decide) ?_
                  refine lv_iload_n hx hb dX7_takeMine_135 rfl (lv_at hl 1 rfl) ?_
                  refine lv_ishl hx hb dX7_takeMine_136 ?_
                  refine lv_goto (tgt := 141) hx hb dX7_takeMine_137 (by decide) ?_
                  refine lv_ior hx hb dX7_takeMine_141 ?_
                  refine zx_putI hx hb hts hiX7 tyX7 tyX7_ok nmX7 hown hG shM_0 vc_7 9 (by decide) rfl L5 rfl (ty := .int) (tyX7_ok 9 (by decide)) rfl rfl dX7_takeMine_142 (fun H locs hG => ?_)
                  refine lv_iinc (v := (v1 + (1 : Int32))) (lv' := [(1, .int (v1 + (1 : Int32))), (0, .ref (ad 0))]) hx hb dX7_takeMine_145 hl (k := 1) rfl (congrArg (HAdd.hAdd v1) (by decide)) (by decide) rfl (fun ls hl => ?_)
                  refine lv_goto (tgt := 51) hx hb dX7_takeMine_148 (by decide) ?_
                  exact ih51 (v1 + (1 : Int32)) (zxU (zxU (zxU (zxU I 5 v1.toNatClampNeg (I 9 ((4 : Int32) * v1).toNatClampNeg)) 6 v1.toNatClampNeg ((zxU I 5 v1.toNatClampNeg (I 9 ((4 : Int32) * v1).toNatClampNeg)) 9 (((4 : Int32) * v1) + (1 : Int32)).toNatClampNeg)) 7 v1.toNatClampNeg ((zxU (zxU I 5 v1.toNatClampNeg (I 9 ((4 : Int32) * v1).toNatClampNeg)) 6 v1.toNatClampNeg ((zxU I 5 v1.toNatClampNeg (I 9 ((4 : Int32) * v1).toNatClampNeg)) 9 (((4 : Int32) * v1) + (1 : Int32)).toNatClampNeg)) 9 (((4 : Int32) * v1) + (2 : Int32)).toNatClampNeg)) 0 9 (((zxU (zxU (zxU I 5 v1.toNatClampNeg (I 9 ((4 : Int32) * v1).toNatClampNeg)) 6 v1.toNatClampNeg ((zxU I 5 v1.toNatClampNeg (I 9 ((4 : Int32) * v1).toNatClampNeg)) 9 (((4 : Int32) * v1) + (1 : Int32)).toNatClampNeg)) 7 v1.toNatClampNeg ((zxU (zxU I 5 v1.toNatClampNeg (I 9 ((4 : Int32) * v1).toNatClampNeg)) 6 v1.toNatClampNeg ((zxU I 5 v1.toNatClampNeg (I 9 ((4 : Int32) * v1).toNatClampNeg)) 9 (((4 : Int32) * v1) + (1 : Int32)).toNatClampNeg)) 9 (((4 : Int32) * v1) + (2 : Int32)).toNatClampNeg)) 0 9) ||| ((1 : Int32) <<< (v1 &&& 31)))) _ _ ls hf hG (lv_sub hl [1, 0] rfl)
        exact loop51 _ (0 : Int32) (zxU (zxU I 0 5 (I 0 16)) 0 9 (0 : Int32)) _ _ ls hf hG (lv_sub hl [1, 0] rfl)
      · have hf := zx_neg c_1 hf
        refine lv_aload_n hx hb dX7_takeMine_18 rfl (lv_at hl 0 rfl) ?_
        refine zx_getR (d := 4) hx hb hts hiX7 hown hG shM_0 vc_7 10 (by decide) rfl L13 dX7_takeMine_19 ?_
        refine lv_iload_n hx hb dX7_takeMine_22 rfl (lv_at hl 1 rfl) ?_
        refine lv_aload_n hx hb dX7_takeMine_23 rfl (lv_at hl 0 rfl) ?_
        refine zx_getR (d := 8) hx hb hts hiX7 hown hG shM_0 vc_7 17 (by decide) rfl L14 dX7_takeMine_24 ?_
        refine lv_iload_n hx hb dX7_takeMine_27 rfl (lv_at hl 1 rfl) ?_
        obtain ⟨g_12, hf⟩ := zx_in hf
        refine zx_ald hx hb hG shM_8 g_12 dX7_takeMine_28 ?_
        refine zx_ast hx hb hG shM_4 g_12 dX7_takeMine_29 (fun H locs hG => ?_)
        refine lv_iinc (v := (v1 + (1 : Int32))) (lv' := [(1, .int (v1 + (1 : Int32))), (0, .ref (ad 0))]) hx hb dX7_takeMine_30 hl (k := 1) rfl (congrArg (HAdd.hAdd v1) (by decide)) (by decide) rfl (fun ls hl => ?_)
        refine lv_goto (tgt := 10) hx hb dX7_takeMine_33 (by decide) ?_
        exact ih10 (v1 + (1 : Int32)) (zxU I 4 v1.toNatClampNeg (I 8 v1.toNatClampNeg)) _ _ ls hf hG (lv_sub hl [1, 0] rfl)
  exact loop10 _ (0 : Int32) (zxU I 0 6 (I 0 15)) _ _ ls hf hG (lv_sub hl [1, 0] rfl)

set_option maxHeartbeats 4000000 in
set_option maxRecDepth 100000 in
theorem mX7_mine (l : Launch) (D : va_G) (ad : Nat → Nat) (cA : Nat → ClassId) (x1 : Int32) (x2 : Int32) (x3 : Int32) (x4 : Int32) (I : zxI) (r : Int32) (J : zxI) (hf : fX7_mine x1 x2 x3 x4 I = some (r, J)) (sz : Nat) : Met l yX7_mine wsX7_mine { frames := 4, cells := 0, slots := 0, locals := 89 } (va_Pc [.ref (ad 0), .int x1, .int x2, .int x3, .int x4] (zxPre D shM ad cA I sz)) (va_Qi (fun (r2 : Int32) (I2 : zxI) => r2 = r ∧ I2 = J) (zxPost D shM ad cA sz) (zxA shM ad sz)) 0 0 (zxA shM ad sz) := by
  refine zx_start (by decide) rfl (Nat.le_of_ble_eq_true rfl) ?_
  intro p e s m args below meth c ls hx hb hr hts hown hlocks hml hG hl
  have hl : lv_has ls 7 [(0, .ref (ad 0)), (1, .int x1), (2, .int x2), (3, .int x3), (4, .int x4)] := hl
  have hiX7 : ∀ w ∈ wsX70, w ∈ wsX7_mine := fun w h => List.mem_cons_of_mem _ (List.mem_append_right _ h)
  have L1 := hts (Cond.fieldLink RX7 55 "GalleryBirdsModel" "fault" "I") (List.mem_of_getElem? (i := 1) rfl)
  have L2 := hts (Cond.fieldLink RX7 71 "GalleryBirdsModel" "at" "I") (List.mem_of_getElem? (i := 2) rfl)
  have L3 := hts (Cond.fieldLink RX7 65 "GalleryBirdsModel" "galleries" "I") (List.mem_of_getElem? (i := 3) rfl)
  unfold fX7_mine at hf
  refine lv_aload_n hx hb dX7_mine_0 rfl (lv_at hl 0 rfl) ?_
  refine lv_iconst (v := (0 : Int32)) hx hb dX7_mine_1 (by decide) ?_
  refine zx_putI hx hb hts hiX7 tyX7 tyX7_ok nmX7 hown hG shM_0 vc_7 0 (by decide) rfl L1 rfl (ty := .int) (tyX7_ok 0 (by decide)) rfl rfl dX7_mine_2 (fun H locs hG => ?_)
  refine lv_iload_n hx hb dX7_mine_5 rfl (lv_at hl 1 rfl) ?_
  obtain ⟨r_1, I_1, h_1, hf⟩ := zx_b hf
  refine zx_calli (va_runS (As := [.int x1]) (rest := []) ⟨hx, hb, hml, hown, hts⟩ (mX7_isSheet l D ad cA x1 (zxU I 0 0 (0 : Int32)) r_1 I_1 h_1 _) (va_cwS 1 hts gX7_mine_X7_isSheet rfl rfl rfl hd_X7_isSheet ⟨Nat.le_of_ble_eq_true rfl, Nat.le_of_ble_eq_true rfl⟩) (zx_preS hG) rfl rfl hl.1 rfl (lv_room (Nat.le_of_ble_eq_true rfl)) dX7_mine_6 ⟨Nat.le_refl _, Nat.le_refl _⟩) hG (fun H locs hG => ?_)
  refine lv_if_ne (tgt := 14) hx hb dX7_mine_9 (by decide) (fun c_2 => ?_) (fun c_2 => ?_)
  · have hf := zx_neg c_2 hf
    refine lv_iload_n hx hb dX7_mine_14 rfl (lv_at hl 2 rfl) ?_
    obtain ⟨r_3, I_3, h_3, hf⟩ := zx_b hf
    refine zx_calli (va_runS (As := [.int x2]) (rest := []) ⟨hx, hb, hml, hown, hts⟩ (mX7_isSort l D ad cA x2 I_1 r_3 I_3 h_3 _) (va_cwS 1 hts gX7_mine_X7_isSort rfl rfl rfl hd_X7_isSort ⟨Nat.le_of_ble_eq_true rfl, Nat.le_of_ble_eq_true rfl⟩) (zx_preS hG) rfl rfl hl.1 rfl (lv_room (Nat.le_of_ble_eq_true rfl)) dX7_mine_15 ⟨Nat.le_refl _, Nat.le_refl _⟩) hG (fun H locs hG => ?_)
    refine lv_if_ne (tgt := 24) hx hb dX7_mine_18 (by decide) (fun c_4 => ?_) (fun c_4 => ?_)
    · have hf := zx_neg c_4 hf
      refine lv_aload_n hx hb dX7_mine_24 rfl (lv_at hl 0 rfl) ?_
      refine lv_iload_n hx hb dX7_mine_25 rfl (lv_at hl 1 rfl) ?_
      refine lv_iload_n hx hb dX7_mine_26 rfl (lv_at hl 2 rfl) ?_
      refine lv_iload_n hx hb dX7_mine_27 rfl (lv_at hl 3 rfl) ?_
      refine lv_iload hx hb dX7_mine_28 (lv_at hl 4 rfl) ?_
      obtain ⟨r_5, I_5, h_5, hf⟩ := zx_b hf
      refine zx_calli (va_runV (As := [.int x1, .int x2, .int x3, .int x4]) (rest := []) ⟨hx, hb, hml, hown, hts⟩ (mX7_against l D ad cA x1 x2 x3 x4 I_3 r_5 I_5 h_5 _) (cwV 4 hts gX7_mine_X7_against rfl rfl rfl hd_X7_against ⟨Nat.le_of_ble_eq_true rfl, Nat.le_of_ble_eq_true rfl⟩) (zx_preV hG shM_0 vc_7) rfl rfl hl.1 rfl (lv_room (Nat.le_of_ble_eq_true rfl)) dX7_mine_30 ⟨Nat.le_refl _, Nat.le_refl _⟩) hG (fun H locs hG => ?_)
      refine lv_istore (lv' := [(5, .int r_5), (0, .ref (ad 0)), (1, .int x1), (2, .int x2), (3, .int x3), (4, .int x4)]) hx hb dX7_mine_33 hl (by decide) rfl (fun ls hl => ?_)
      refine lv_iload hx hb dX7_mine_35 (lv_at hl 0 rfl) ?_
      refine lv_if_eq (tgt := 47) hx hb dX7_mine_37 (by decide) (fun c_6 => ?_) (fun c_6 => ?_)
      · have hf := zx_pos c_6 hf
        refine lv_bipush (v := (60 : Int32)) hx hb dX7_mine_47 (by decide) ?_
        refine lv_iload_n hx hb dX7_mine_49 rfl (lv_at hl 2 rfl) ?_
        refine lv_imul hx hb dX7_mine_50 ?_
        refine lv_iload_n hx hb dX7_mine_51 rfl (lv_at hl 4 rfl) ?_
        refine lv_iadd hx hb dX7_mine_52 ?_
        refine lv_istore (lv' := [(6, .int (((60 : Int32) * x1) + x3)), (5, .int r_5), (0, .ref (ad 0)), (1, .int x1), (2, .int x2), (3, .int x3), (4, .int x4)]) hx hb dX7_mine_53 hl (by decide) rfl (fun ls hl => ?_)
        refine lv_aload_n hx hb dX7_mine_55 rfl (lv_at hl 2 rfl) ?_
        refine lv_iload hx hb dX7_mine_56 (lv_at hl 0 rfl) ?_
        refine zx_putI hx hb hts hiX7 tyX7 tyX7_ok nmX7 hown hG shM_0 vc_7 14 (by decide) rfl L2 rfl (ty := .int) (tyX7_ok 14 (by decide)) rfl rfl dX7_mine_58 (fun H locs hG => ?_)
        refine lv_aload_n hx hb dX7_mine_61 rfl (lv_at hl 2 rfl) ?_
        refine lv_iload hx hb dX7_mine_62 (lv_at hl 0 rfl) ?_
        refine lv_iload hx hb dX7_mine_64 (lv_at hl 6 rfl) ?_
        refine lv_iadd hx hb dX7_mine_66 ?_
        obtain ⟨r_7, I_7, h_7, hf⟩ := zx_b hf
        refine zx_calli (va_runV (As := [.int ((((60 : Int32) * x1) + x3) + x4)]) (rest := []) ⟨hx, hb, hml, hown, hts⟩ (mX7_readMine l D ad cA ((((60 : Int32) * x1) + x3) + x4) (zxU I_5 0 14 (((60 : Int32) * x1) + x3)) r_7 I_7 h_7 _) (cwV 1 hts gX7_mine_X7_readMine rfl rfl rfl hd_X7_readMine ⟨Nat.le_of_ble_eq_true rfl, Nat.le_of_ble_eq_true rfl⟩) (zx_preV hG shM_0 vc_7) rfl rfl hl.1 rfl (lv_room (Nat.le_of_ble_eq_true rfl)) dX7_mine_67 ⟨Nat.le_refl _, Nat.le_refl _⟩) hG (fun H locs hG => ?_)
        refine lv_if_ne (tgt := 84) hx hb dX7_mine_70 (by decide) (fun c_8 => ?_) (fun c_8 => ?_)
        · have hf := zx_neg c_8 hf
          refine lv_aload_n hx hb dX7_mine_84 rfl (lv_at hl 2 rfl) ?_
          obtain ⟨I_9, h_9, hf⟩ := zx_v hf
          refine zx_callv (va_runV (As := []) (rest := []) ⟨hx, hb, hml, hown, hts⟩ (mX7_takeMine l D ad cA I_7 I_9 h_9 _) (cwV 0 hts gX7_mine_X7_takeMine rfl rfl rfl hd_X7_takeMine ⟨Nat.le_of_ble_eq_true rfl, Nat.le_of_ble_eq_true rfl⟩) (zx_preV hG shM_0 vc_7) rfl rfl hl.1 rfl (lv_room (Nat.le_of_ble_eq_true rfl)) dX7_mine_85 ⟨Nat.le_refl _, Nat.le_refl _⟩) hG (fun H locs hG => ?_)
          refine lv_aload_n hx hb dX7_mine_88 rfl (lv_at hl 2 rfl) ?_
          refine zx_getI hx hb hts hiX7 hown hG shM_0 vc_7 5 (by decide) rfl L3 dX7_mine_89 ?_
          exact zx_iret hx hb hr hlocks rfl hG hf dX7_mine_92
        · have hf := zx_pos c_8 hf
          refine lv_bipush (v := (-100 : Int32)) hx hb dX7_mine_73 (by decide) ?_
          refine lv_aload_n hx hb dX7_mine_75 rfl (lv_at hl 2 rfl) ?_
          refine zx_getI hx hb hts hiX7 hown hG shM_0 vc_7 14 (by decide) rfl L2 dX7_mine_76 ?_
          refine lv_iload hx hb dX7_mine_79 (lv_at hl 0 rfl) ?_
          refine lv_isub hx hb dX7_mine_81 ?_
          refine lv_isub hx hb dX7_mine_82 ?_
          exact zx_iret hx hb hr hlocks rfl hG hf dX7_mine_83
      · have hf := zx_neg c_6 hf
        refine lv_aload_n hx hb dX7_mine_40 rfl (lv_at hl 1 rfl) ?_
        refine lv_iload hx hb dX7_mine_41 (lv_at hl 0 rfl) ?_
        obtain ⟨r_10, I_10, h_10, hf⟩ := zx_b hf
        refine zx_calli (va_runV (As := [.int r_5]) (rest := []) ⟨hx, hb, hml, hown, hts⟩ (mX7_fails l D ad cA r_5 I_5 r_10 I_10 h_10 _) (cwV 1 hts gX7_mine_X7_fails rfl rfl rfl hd_X7_fails ⟨Nat.le_of_ble_eq_true rfl, Nat.le_of_ble_eq_true rfl⟩) (zx_preV hG shM_0 vc_7) rfl rfl hl.1 rfl (lv_room (Nat.le_of_ble_eq_true rfl)) dX7_mine_43 ⟨Nat.le_refl _, Nat.le_refl _⟩) hG (fun H locs hG => ?_)
        exact zx_iret hx hb hr hlocks rfl hG hf dX7_mine_46
    · have hf := zx_pos c_4 hf
      refine lv_bipush (v := (-2 : Int32)) hx hb dX7_mine_21 (by decide) ?_
      exact zx_iret hx hb hr hlocks rfl hG hf dX7_mine_23
  · have hf := zx_pos c_2 hf
    refine lv_iconst (v := (-1 : Int32)) hx hb dX7_mine_12 (by decide) ?_
    exact zx_iret hx hb hr hlocks rfl hG hf dX7_mine_13

set_option maxHeartbeats 4000000 in
set_option maxRecDepth 100000 in
theorem mX7_bearsBy (l : Launch) (D : va_G) (ad : Nat → Nat) (cA : Nat → ClassId) (x0 : Int32) (x1 : Int32) (I : zxI) (r : Int32) (J : zxI) (hf : fX7_bearsBy x0 x1 I = some (r, J)) (sz : Nat) : Met l yX7_bearsBy wsX7_bearsBy { frames := 0, cells := 0, slots := 0, locals := 0 } (va_Pc [.int x0, .int x1] (zxPre D shM ad cA I sz)) (va_Qi (fun (r2 : Int32) (I2 : zxI) => r2 = r ∧ I2 = J) (zxPost D shM ad cA sz) (zxA shM ad sz)) 0 0 (zxA shM ad sz) := by
  refine zx_start (by decide) rfl (Nat.le_of_ble_eq_true rfl) ?_
  intro p e s m args below meth c ls hx hb hr hts hown hlocks hml hG hl
  have hl : lv_has ls 2 [(0, .int x0), (1, .int x1)] := hl
  unfold fX7_bearsBy at hf
  refine lv_iload_n hx hb dX7_bearsBy_0 rfl (lv_at hl 0 rfl) ?_
  refine lv_if_ne (tgt := 8) hx hb dX7_bearsBy_1 (by decide) (fun c_1 => ?_) (fun c_1 => ?_)
  · have hf := zx_neg c_1 hf
    refine lv_iload_n hx hb dX7_bearsBy_8 rfl (lv_at hl 0 rfl) ?_
    refine lv_iconst (v := (1 : Int32)) hx hb dX7_bearsBy_9 (by decide) ?_
    refine lv_icmp_ne (tgt := 19) hx hb dX7_bearsBy_10 (by decide) (fun c_2 => ?_) (fun c_2 => ?_)
    · have hf := zx_neg c_2 hf
      refine lv_iconst (v := (2 : Int32)) hx hb dX7_bearsBy_19 (by decide) ?_
      refine lv_iload_n hx hb dX7_bearsBy_20 rfl (lv_at hl 1 rfl) ?_
      refine lv_imul hx hb dX7_bearsBy_21 ?_
      exact zx_iret hx hb hr hlocks rfl hG hf dX7_bearsBy_22
    · have hf := zx_pos c_2 hf
      refine lv_iload_n hx hb dX7_bearsBy_13 rfl (lv_at hl 1 rfl) ?_
      refine lv_iconst (v := (1 : Int32)) hx hb dX7_bearsBy_14 (by decide) ?_
      refine lv_isub hx hb dX7_bearsBy_15 ?_
      refine lv_goto (tgt := 22) hx hb dX7_bearsBy_16 (by decide) ?_
      exact zx_iret hx hb hr hlocks rfl hG hf dX7_bearsBy_22
  · have hf := zx_pos c_1 hf
    refine lv_iload_n hx hb dX7_bearsBy_4 rfl (lv_at hl 1 rfl) ?_
    refine lv_goto (tgt := 22) hx hb dX7_bearsBy_5 (by decide) ?_
    exact zx_iret hx hb hr hlocks rfl hG hf dX7_bearsBy_22

set_option maxHeartbeats 4000000 in
set_option maxRecDepth 100000 in
theorem mX7_bearsOf (l : Launch) (D : va_G) (ad : Nat → Nat) (cA : Nat → ClassId) (x1 : Int32) (I : zxI) (r : Int32) (J : zxI) (hf : fX7_bearsOf x1 I = some (r, J)) (sz : Nat) : Met l yX7_bearsOf wsX7_bearsOf { frames := 1, cells := 0, slots := 0, locals := 21 } (va_Pc [.ref (ad 0), .int x1] (zxPre D shM ad cA I sz)) (va_Qi (fun (r2 : Int32) (I2 : zxI) => r2 = r ∧ I2 = J) (zxPost D shM ad cA sz) (zxA shM ad sz)) 0 0 (zxA shM ad sz) := by
  refine zx_start (by decide) rfl (Nat.le_of_ble_eq_true rfl) ?_
  intro p e s m args below meth c ls hx hb hr hts hown hlocks hml hG hl
  have hl : lv_has ls 2 [(0, .ref (ad 0)), (1, .int x1)] := hl
  have hiX7 : ∀ w ∈ wsX70, w ∈ wsX7_bearsOf := fun w h => List.mem_cons_of_mem _ (List.mem_append_right _ h)
  have L1 := hts (Cond.fieldLink RX7 22 "GalleryBirdsModel" "kind" "[I") (List.mem_of_getElem? (i := 1) rfl)
  have L2 := hts (Cond.fieldLink RX7 28 "GalleryBirdsModel" "strength" "[I") (List.mem_of_getElem? (i := 2) rfl)
  unfold fX7_bearsOf at hf
  refine lv_aload_n hx hb dX7_bearsOf_0 rfl (lv_at hl 0 rfl) ?_
  refine zx_getR (d := 5) hx hb hts hiX7 hown hG shM_0 vc_7 11 (by decide) rfl L1 dX7_bearsOf_1 ?_
  refine lv_iload_n hx hb dX7_bearsOf_4 rfl (lv_at hl 1 rfl) ?_
  obtain ⟨g_1, hf⟩ := zx_in hf
  refine zx_ald hx hb hG shM_5 g_1 dX7_bearsOf_5 ?_
  refine lv_aload_n hx hb dX7_bearsOf_6 rfl (lv_at hl 0 rfl) ?_
  refine zx_getR (d := 7) hx hb hts hiX7 hown hG shM_0 vc_7 13 (by decide) rfl L2 dX7_bearsOf_7 ?_
  refine lv_iload_n hx hb dX7_bearsOf_10 rfl (lv_at hl 1 rfl) ?_
  refine zx_ald hx hb hG shM_7 g_1 dX7_bearsOf_11 ?_
  obtain ⟨r_3, I_3, h_3, hf⟩ := zx_b hf
  refine zx_calli (va_runS (As := [.int (I 5 x1.toNatClampNeg), .int (I 7 x1.toNatClampNeg)]) (rest := []) ⟨hx, hb, hml, hown, hts⟩ (mX7_bearsBy l D ad cA (I 5 x1.toNatClampNeg) (I 7 x1.toNatClampNeg) I r_3 I_3 h_3 _) (va_cwS 2 hts gX7_bearsOf_X7_bearsBy rfl rfl rfl hd_X7_bearsBy ⟨Nat.le_of_ble_eq_true rfl, Nat.le_of_ble_eq_true rfl⟩) (zx_preS hG) rfl rfl hl.1 rfl (lv_room (Nat.le_of_ble_eq_true rfl)) dX7_bearsOf_12 ⟨Nat.le_refl _, Nat.le_refl _⟩) hG (fun H locs hG => ?_)
  exact zx_iret hx hb hr hlocks rfl hG hf dX7_bearsOf_15

set_option maxHeartbeats 4000000 in
set_option maxRecDepth 100000 in
theorem mX7_isDoor (l : Launch) (D : va_G) (ad : Nat → Nat) (cA : Nat → ClassId) (x1 : Int32) (I : zxI) (r : Int32) (J : zxI) (hf : fX7_isDoor x1 I = some (r, J)) (sz : Nat) : Met l yX7_isDoor wsX7_isDoor { frames := 0, cells := 0, slots := 0, locals := 0 } (va_Pc [.ref (ad 0), .int x1] (zxPre D shM ad cA I sz)) (va_Qi (fun (r2 : Int32) (I2 : zxI) => r2 = r ∧ I2 = J) (zxPost D shM ad cA sz) (zxA shM ad sz)) 0 0 (zxA shM ad sz) := by
  refine zx_start (by decide) rfl (Nat.le_of_ble_eq_true rfl) ?_
  intro p e s m args below meth c ls hx hb hr hts hown hlocks hml hG hl
  have hl : lv_has ls 2 [(0, .ref (ad 0)), (1, .int x1)] := hl
  have hiX7 : ∀ w ∈ wsX70, w ∈ wsX7_isDoor := fun w h => List.mem_cons_of_mem _ (List.mem_append_right _ h)
  have L1 := hts (Cond.fieldLink RX7 65 "GalleryBirdsModel" "galleries" "I") (List.mem_of_getElem? (i := 1) rfl)
  unfold fX7_isDoor at hf
  refine lv_iload_n hx hb dX7_isDoor_0 rfl (lv_at hl 1 rfl) ?_
  refine lv_if_lt (tgt := 18) hx hb dX7_isDoor_1 (by decide) (fun c_1 => ?_) (fun c_1 => ?_)
  · have hf := zx_pos c_1 hf
    refine lv_iconst (v := (0 : Int32)) hx hb dX7_isDoor_18 (by decide) ?_
    exact zx_iret hx hb hr hlocks rfl hG hf dX7_isDoor_19
  · have hf := zx_neg c_1 hf
    refine lv_iload_n hx hb dX7_isDoor_4 rfl (lv_at hl 1 rfl) ?_
    refine lv_aload_n hx hb dX7_isDoor_5 rfl (lv_at hl 0 rfl) ?_
    refine zx_getI hx hb hts hiX7 hown hG shM_0 vc_7 5 (by decide) rfl L1 dX7_isDoor_6 ?_
    refine lv_iconst (v := (1 : Int32)) hx hb dX7_isDoor_9 (by decide) ?_
    refine lv_isub hx hb dX7_isDoor_10 ?_
    refine lv_icmp_ge (tgt := 18) hx hb dX7_isDoor_11 (by decide) (fun c_2 => ?_) (fun c_2 => ?_)
    · have hf := zx_pos c_2 hf
      refine lv_iconst (v := (0 : Int32)) hx hb dX7_isDoor_18 (by decide) ?_
      exact zx_iret hx hb hr hlocks rfl hG hf dX7_isDoor_19
    · have hf := zx_neg c_2 hf
      refine lv_iconst (v := (1 : Int32)) hx hb dX7_isDoor_14 (by decide) ?_
      refine lv_goto (tgt := 19) hx hb dX7_isDoor_15 (by decide) ?_
      exact zx_iret hx hb hr hlocks rfl hG hf dX7_isDoor_19

set_option maxHeartbeats 4000000 in
set_option maxRecDepth 100000 in
theorem mX7_ofGallery (l : Launch) (D : va_G) (ad : Nat → Nat) (cA : Nat → ClassId) (x1 : Int32) (x2 : Int32) (I : zxI) (r : Int32) (J : zxI) (hf : fX7_ofGallery x1 x2 I = some (r, J)) (sz : Nat) : Met l yX7_ofGallery wsX7_ofGallery { frames := 2, cells := 0, slots := 0, locals := 42 } (va_Pc [.ref (ad 0), .int x1, .int x2] (zxPre D shM ad cA I sz)) (va_Qi (fun (r2 : Int32) (I2 : zxI) => r2 = r ∧ I2 = J) (zxPost D shM ad cA sz) (zxA shM ad sz)) 0 0 (zxA shM ad sz) := by
  refine zx_start (by decide) rfl (Nat.le_of_ble_eq_true rfl) ?_
  intro p e s m args below meth c ls hx hb hr hts hown hlocks hml hG hl
  have hl : lv_has ls 3 [(0, .ref (ad 0)), (1, .int x1), (2, .int x2)] := hl
  have hiX7 : ∀ w ∈ wsX70, w ∈ wsX7_ofGallery := fun w h => List.mem_cons_of_mem _ (List.mem_append_right _ h)
  have L1 := hts (Cond.fieldLink RX7 22 "GalleryBirdsModel" "kind" "[I") (List.mem_of_getElem? (i := 1) rfl)
  have L2 := hts (Cond.fieldLink RX7 25 "GalleryBirdsModel" "foulNow" "[I") (List.mem_of_getElem? (i := 2) rfl)
  have L3 := hts (Cond.fieldLink RX7 28 "GalleryBirdsModel" "strength" "[I") (List.mem_of_getElem? (i := 3) rfl)
  have L4 := hts (Cond.fieldLink RX7 107 "GalleryBirdsModel" "down" "I") (List.mem_of_getElem? (i := 4) rfl)
  have L5 := hts (Cond.fieldLink RX7 101 "GalleryBirdsModel" "doors" "I") (List.mem_of_getElem? (i := 5) rfl)
  unfold fX7_ofGallery at hf
  refine lv_aload_n hx hb dX7_ofGallery_0 rfl (lv_at hl 0 rfl) ?_
  refine lv_iload_n hx hb dX7_ofGallery_1 rfl (lv_at hl 1 rfl) ?_
  obtain ⟨r_1, I_1, h_1, hf⟩ := zx_b hf
  refine zx_calli (va_runV (As := [.int x1]) (rest := []) ⟨hx, hb, hml, hown, hts⟩ (mX7_isGallery l D ad cA x1 I r_1 I_1 h_1 _) (cwV 1 hts gX7_ofGallery_X7_isGallery rfl rfl rfl hd_X7_isGallery ⟨Nat.le_of_ble_eq_true rfl, Nat.le_of_ble_eq_true rfl⟩) (zx_preV hG shM_0 vc_7) rfl rfl hl.1 rfl (lv_room (Nat.le_of_ble_eq_true rfl)) dX7_ofGallery_2 ⟨Nat.le_refl _, Nat.le_refl _⟩) hG (fun H locs hG => ?_)
  refine lv_if_ne (tgt := 10) hx hb dX7_ofGallery_5 (by decide) (fun c_2 => ?_) (fun c_2 => ?_)
  · have hf := zx_neg c_2 hf
    refine lv_iload_n hx hb dX7_ofGallery_10 rfl (lv_at hl 2 rfl) ?_
    by_cases c_3 : x2 = (0 : Int32)
    · have hf := zx_pos c_3 hf
      refine lv_tableIn (off := 37) (tgt := 48) hx hb dX7_ofGallery_11 (by rw [c_3]; decide) (by rw [c_3]; decide) (by rw [c_3]; decide) (by decide) ?_
      refine lv_aload_n hx hb dX7_ofGallery_48 rfl (lv_at hl 0 rfl) ?_
      refine zx_getR (d := 5) hx hb hts hiX7 hown hG shM_0 vc_7 11 (by decide) rfl L1 dX7_ofGallery_49 ?_
      refine lv_iload_n hx hb dX7_ofGallery_52 rfl (lv_at hl 1 rfl) ?_
      obtain ⟨g_9, hf⟩ := zx_in hf
      refine zx_ald hx hb hG shM_5 g_9 dX7_ofGallery_53 ?_
      exact zx_iret hx hb hr hlocks rfl hG hf dX7_ofGallery_54
    have hf := zx_neg c_3 hf
    by_cases c_4 : x2 = (1 : Int32)
    · have hf := zx_pos c_4 hf
      refine lv_tableIn (off := 44) (tgt := 55) hx hb dX7_ofGallery_11 (by rw [c_4]; decide) (by rw [c_4]; decide) (by rw [c_4]; decide) (by decide) ?_
      refine lv_aload_n hx hb dX7_ofGallery_55 rfl (lv_at hl 0 rfl) ?_
      refine zx_getR (d := 6) hx hb hts hiX7 hown hG shM_0 vc_7 12 (by decide) rfl L2 dX7_ofGallery_56 ?_
      refine lv_iload_n hx hb dX7_ofGallery_59 rfl (lv_at hl 1 rfl) ?_
      obtain ⟨g_10, hf⟩ := zx_in hf
      refine zx_ald hx hb hG shM_6 g_10 dX7_ofGallery_60 ?_
      exact zx_iret hx hb hr hlocks rfl hG hf dX7_ofGallery_61
    have hf := zx_neg c_4 hf
    by_cases c_5 : x2 = (2 : Int32)
    · have hf := zx_pos c_5 hf
      refine lv_tableIn (off := 51) (tgt := 62) hx hb dX7_ofGallery_11 (by rw [c_5]; decide) (by rw [c_5]; decide) (by rw [c_5]; decide) (by decide) ?_
      refine lv_aload_n hx hb dX7_ofGallery_62 rfl (lv_at hl 0 rfl) ?_
      refine zx_getR (d := 7) hx hb hts hiX7 hown hG shM_0 vc_7 13 (by decide) rfl L3 dX7_ofGallery_63 ?_
      refine lv_iload_n hx hb dX7_ofGallery_66 rfl (lv_at hl 1 rfl) ?_
      obtain ⟨g_11, hf⟩ := zx_in hf
      refine zx_ald hx hb hG shM_7 g_11 dX7_ofGallery_67 ?_
      exact zx_iret hx hb hr hlocks rfl hG hf dX7_ofGallery_68
    have hf := zx_neg c_5 hf
    by_cases c_6 : x2 = (3 : Int32)
    · have hf := zx_pos c_6 hf
      refine lv_tableIn (off := 58) (tgt := 69) hx hb dX7_ofGallery_11 (by rw [c_6]; decide) (by rw [c_6]; decide) (by rw [c_6]; decide) (by decide) ?_
      refine lv_aload_n hx hb dX7_ofGallery_69 rfl (lv_at hl 0 rfl) ?_
      refine lv_iload_n hx hb dX7_ofGallery_70 rfl (lv_at hl 1 rfl) ?_
      obtain ⟨r_12, I_12, h_12, hf⟩ := zx_b hf
      refine zx_calli (va_runV (As := [.int x1]) (rest := []) ⟨hx, hb, hml, hown, hts⟩ (mX7_bearsOf l D ad cA x1 I_1 r_12 I_12 h_12 _) (cwV 1 hts gX7_ofGallery_X7_bearsOf rfl rfl rfl hd_X7_bearsOf ⟨Nat.le_of_ble_eq_true rfl, Nat.le_of_ble_eq_true rfl⟩) (zx_preV hG shM_0 vc_7) rfl rfl hl.1 rfl (lv_room (Nat.le_of_ble_eq_true rfl)) dX7_ofGallery_71 ⟨Nat.le_refl _, Nat.le_refl _⟩) hG (fun H locs hG => ?_)
      exact zx_iret hx hb hr hlocks rfl hG hf dX7_ofGallery_74
    have hf := zx_neg c_6 hf
    by_cases c_7 : x2 = (4 : Int32)
    · have hf := zx_pos c_7 hf
      refine lv_tableIn (off := 64) (tgt := 75) hx hb dX7_ofGallery_11 (by rw [c_7]; decide) (by rw [c_7]; decide) (by rw [c_7]; decide) (by decide) ?_
      refine lv_aload_n hx hb dX7_ofGallery_75 rfl (lv_at hl 0 rfl) ?_
      refine zx_getI hx hb hts hiX7 hown hG shM_0 vc_7 8 (by decide) rfl L4 dX7_ofGallery_76 ?_
      refine lv_iload_n hx hb dX7_ofGallery_79 rfl (lv_at hl 1 rfl) ?_
      refine lv_ishr hx hb dX7_ofGallery_80 ?_
      refine lv_iconst (v := (1 : Int32)) hx hb dX7_ofGallery_81 (by decide) ?_
      refine lv_iand hx hb dX7_ofGallery_82 ?_
      exact zx_iret hx hb hr hlocks rfl hG hf dX7_ofGallery_83
    have hf := zx_neg c_7 hf
    by_cases c_8 : x2 = (5 : Int32)
    · have hf := zx_pos c_8 hf
      refine lv_tableIn (off := 73) (tgt := 84) hx hb dX7_ofGallery_11 (by rw [c_8]; decide) (by rw [c_8]; decide) (by rw [c_8]; decide) (by decide) ?_
      refine lv_aload_n hx hb dX7_ofGallery_84 rfl (lv_at hl 0 rfl) ?_
      refine lv_iload_n hx hb dX7_ofGallery_85 rfl (lv_at hl 1 rfl) ?_
      obtain ⟨r_13, I_13, h_13, hf⟩ := zx_b hf
      refine zx_calli (va_runV (As := [.int x1]) (rest := []) ⟨hx, hb, hml, hown, hts⟩ (mX7_isDoor l D ad cA x1 I_1 r_13 I_13 h_13 _) (cwV 1 hts gX7_ofGallery_X7_isDoor rfl rfl rfl hd_X7_isDoor ⟨Nat.le_of_ble_eq_true rfl, Nat.le_of_ble_eq_true rfl⟩) (zx_preV hG shM_0 vc_7) rfl rfl hl.1 rfl (lv_room (Nat.le_of_ble_eq_true rfl)) dX7_ofGallery_86 ⟨Nat.le_refl _, Nat.le_refl _⟩) hG (fun H locs hG => ?_)
      refine lv_if_eq (tgt := 103) hx hb dX7_ofGallery_89 (by decide) (fun c_14 => ?_) (fun c_14 => ?_)
      · have hf := zx_pos c_14 hf
        refine lv_bipush (v := (-9 : Int32)) hx hb dX7_ofGallery_103 (by decide) ?_
        exact zx_iret hx hb hr hlocks rfl hG hf dX7_ofGallery_105
      · have hf := zx_neg c_14 hf
        refine lv_aload_n hx hb dX7_ofGallery_92 rfl (lv_at hl 0 rfl) ?_
        refine zx_getI hx hb hts hiX7 hown hG shM_0 vc_7 9 (by decide) rfl L5 dX7_ofGallery_93 ?_
        refine lv_iload_n hx hb dX7_ofGallery_96 rfl (lv_at hl 1 rfl) ?_
        refine lv_ishr hx hb dX7_ofGallery_97 ?_
        refine lv_iconst (v := (1 : Int32)) hx hb dX7_ofGallery_98 (by decide) ?_
        refine lv_iand hx hb dX7_ofGallery_99 ?_
        refine lv_goto (tgt := 105) hx hb dX7_ofGallery_100 (by decide) ?_
        exact zx_iret hx hb hr hlocks rfl hG hf dX7_ofGallery_105
    have hf := zx_neg c_8 hf
    refine lv_tableOut (tgt := 106) hx hb dX7_ofGallery_11 (zx_tabOut 5 (by decide) (fun k hk => by rcases (show k = 0 ∨ k = 1 ∨ k = 2 ∨ k = 3 ∨ k = 4 ∨ k = 5 by omega) with rfl | rfl | rfl | rfl | rfl | rfl <;> assumption)) (by decide) ?_
    refine lv_bipush (v := (-2 : Int32)) hx hb dX7_ofGallery_106 (by decide) ?_
    exact zx_iret hx hb hr hlocks rfl hG hf dX7_ofGallery_108
  · have hf := zx_pos c_2 hf
    refine lv_iconst (v := (-1 : Int32)) hx hb dX7_ofGallery_8 (by decide) ?_
    exact zx_iret hx hb hr hlocks rfl hG hf dX7_ofGallery_9
