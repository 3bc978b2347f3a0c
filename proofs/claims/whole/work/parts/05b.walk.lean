/-! walks of methods (laid by wip/whole/gen.py) -/
set_option maxHeartbeats 4000000 in
set_option maxRecDepth 100000 in
theorem mX6_makeAnew (l : Launch) (D : va_G) (ad : Nat → Nat) (cA : Nat → ClassId) (k1 : Nat) (hk1 : k1 < 4) (x2 : Int32) (x3 : Int32) (I : zxI) (J : zxI) (hf : fX6_makeAnew k1 x2 x3 I = some J) (sz : Nat) : Met l yX6_makeAnew wsX6_makeAnew { frames := 2, cells := 0, slots := 0, locals := 45 } (va_Pc [.ref (ad 0), .ref (ad (zsC k1)), .int x2, .int x3] (zxPre D shX ad cA I sz)) (va_Qv (fun (I2 : zxI) => I2 = J) (zxPost D shX ad cA sz) (zxA shX ad sz)) 0 0 (zxA shX ad sz) := by
  refine zx_start (by decide) rfl (Nat.le_of_ble_eq_true rfl) ?_
  intro p e s m args below meth c ls hx hb hr hts hown hlocks hml hG hl
  have hl : lv_has ls 7 [(0, .ref (ad 0)), (1, .ref (ad (zsC k1))), (2, .int x2), (3, .int x3)] := hl
  have hiX0 : ∀ w ∈ wsX00, w ∈ wsX6_makeAnew := fun w h => List.mem_cons_of_mem _ (List.mem_append_left _ (List.mem_append_right _ h))
  have hiX2 : ∀ w ∈ wsX20, w ∈ wsX6_makeAnew := fun w h => List.mem_cons_of_mem _ (List.mem_append_left _ (List.mem_append_left _ (List.mem_append_right _ h)))
  have hiX3 : ∀ w ∈ wsX30, w ∈ wsX6_makeAnew := fun w h => List.mem_cons_of_mem _ (List.mem_append_right _ h)
  have hiX6 : ∀ w ∈ wsX60, w ∈ wsX6_makeAnew := fun w h => List.mem_cons_of_mem _ (List.mem_append_left _ (List.mem_append_left _ (List.mem_append_left _ (List.mem_append_right _ h))))
  have L1 := hts (Cond.fieldLink RX6 20 "GalleryBirds" "pit" "LGalleryBirds$Pit;") (List.mem_of_getElem? (i := 1) rfl)
  have L2 := hts (Cond.fieldLink RX6 196 "GalleryBirds$Pit" "words" "I") (List.mem_of_getElem? (i := 2) rfl)
  have L3 := hts (Cond.methodLink RX6 276 Lib.Math.min.name) (List.mem_of_getElem? (i := 4) rfl)
  have L4 := hts (Cond.static Lib.Math.min.name) (List.mem_of_getElem? (i := 5) rfl)
  have L5 := hts (Cond.initialized "java/lang/Math") (List.mem_of_getElem? (i := 6) rfl)
  have L6 := hts (Cond.code Lib.Math.min.name Lib.Math.min.code 2 (some .int)) (List.mem_of_getElem? (i := 7) rfl)
  have L7 := hts (Cond.fieldLink RX6 97 "GalleryBirds$Pit" "galleries" "I") (List.mem_of_getElem? (i := 8) rfl)
  have L8 := hts (Cond.fieldLink RX6 121 "GalleryBirds$Pit" "doors" "I") (List.mem_of_getElem? (i := 9) rfl)
  have L9 := hts (Cond.fieldLink RX6 27 "GalleryBirds" "air" "LGalleryBirds$Air;") (List.mem_of_getElem? (i := 11) rfl)
  have L10 := hts (Cond.fieldLink RX6 115 "GalleryBirds$Air" "down" "I") (List.mem_of_getElem? (i := 14) rfl)
  have L11 := hts (Cond.fieldLink RX6 60 "GalleryBirds" "breaths" "I") (List.mem_of_getElem? (i := 15) rfl)
  have L12 := hts (Cond.fieldLink RX6 34 "GalleryBirds" "readings" "LGalleryBirds$Readings;") (List.mem_of_getElem? (i := 16) rfl)
  have L13 := hts (Cond.fieldLink RX6 206 "GalleryBirds$Readings" "count" "I") (List.mem_of_getElem? (i := 17) rfl)
  have L14 := hts (Cond.fieldLink RX6 103 "GalleryBirds$Pit" "kinds" "[I") (List.mem_of_getElem? (i := 10) rfl)
  have L15 := hts (Cond.fieldLink RX6 106 "GalleryBirds$Air" "fouls" "[I") (List.mem_of_getElem? (i := 12) rfl)
  have L16 := hts (Cond.fieldLink RX6 109 "GalleryBirds$Pit" "strengths" "[I") (List.mem_of_getElem? (i := 13) rfl)
  have L17 := hts (Cond.fieldLink RX6 127 "GalleryBirds$Pit" "bads" "[I") (List.mem_of_getElem? (i := 3) rfl)
  unfold fX6_makeAnew at hf
  refine lv_aload_n hx hb dX6_makeAnew_0 rfl (lv_at hl 0 rfl) ?_
  refine zx_getR (d := 10) hx hb hts hiX6 hown hG shX_0 vc_6 1 (by decide) rfl L1 dX6_makeAnew_1 ?_
  refine lv_aload_n hx hb dX6_makeAnew_4 rfl (lv_at hl 1 rfl) ?_
  refine lv_iload_n hx hb dX6_makeAnew_5 rfl (lv_at hl 2 rfl) ?_
  refine lv_iload_n hx hb dX6_makeAnew_6 rfl (lv_at hl 3 rfl) ?_
  obtain ⟨r_1, I_1, h_1, hf⟩ := zx_b hf
  refine zx_calli (va_runS (As := [.ref (ad (zsC k1)), .int x2, .int x3]) (rest := [.ref (ad 10)]) ⟨hx, hb, hml, hown, hts⟩ (mX6_wordsOfText l D ad cA k1 hk1 x2 x3 I r_1 I_1 h_1 _) (va_cwS 3 hts gX6_makeAnew_X6_wordsOfText rfl rfl rfl hd_X6_wordsOfText ⟨Nat.le_of_ble_eq_true rfl, Nat.le_of_ble_eq_true rfl⟩) (zx_preS hG) rfl rfl hl.1 rfl (lv_room (Nat.le_of_ble_eq_true rfl)) dX6_makeAnew_7 ⟨Nat.le_refl _, Nat.le_refl _⟩) hG (fun H locs hG => ?_)
  refine zx_putI hx hb hts hiX2 tyX2 tyX2_ok nmX2 hown hG shX_10 vc_2 1 (by decide) rfl L2 rfl (ty := .int) (tyX2_ok 1 (by decide)) rfl rfl dX6_makeAnew_10 (fun H locs hG => ?_)
  refine lv_iconst (v := (0 : Int32)) hx hb dX6_makeAnew_13 (by decide) ?_
  refine lv_istore (lv' := [(4, .int (0 : Int32)), (0, .ref (ad 0)), (1, .ref (ad (zsC k1))), (2, .int x2), (3, .int x3)]) hx hb dX6_makeAnew_14 hl (by decide) rfl (fun ls hl => ?_)
  have loop16 : ∀ (n : Nat) (v2 : Int32) (v3 : Int32) (v4 : Int32) (I : zxI) (H : Heap) (locs : List Loc) (ls : Array Slot), fX6_makeAnew_L16 k1 n v2 v3 v4 I = some J → zxAt D shX ad cA I s sz H locs → lv_has ls 7 [(0, .ref (ad 0)), (1, .ref (ad (zsC k1))), (2, .int v2), (3, .int v3), (4, .int v4)] → W p l e (headSpec wsX6_makeAnew { frames := 2, cells := 0, slots := 0, locals := 45 }).room s m args below meth c H locs 0 0 (MQ below (va_Qv (fun (I2 : zxI) => I2 = J) (zxPost D shX ad cA sz) (zxA shX ad sz)) args s 0 0 (zxA shX ad sz)) (F0 m 16 ls []) := by
    intro n
    induction n with
    | zero =>
      intro v2 v3 v4 I H locs ls hf hG hl
      rw [fX6_makeAnew_L16] at hf
      cases hf
    | succ n16 ih16 =>
      intro v2 v3 v4 I H locs ls hf hG hl
      rw [fX6_makeAnew_L16] at hf
      refine lv_iload hx hb dX6_makeAnew_16 (lv_at hl 4 rfl) ?_
      refine lv_aload_n hx hb dX6_makeAnew_18 rfl (lv_at hl 0 rfl) ?_
      refine zx_getR (d := 10) hx hb hts hiX6 hown hG shX_0 vc_6 1 (by decide) rfl L1 dX6_makeAnew_19 ?_
      refine zx_getI hx hb hts hiX2 hown hG shX_10 vc_2 1 (by decide) rfl L2 dX6_makeAnew_22 ?_
      refine lv_icmp_ge (tgt := 55) hx hb dX6_makeAnew_25 (by decide) (fun c_2 => ?_) (fun c_2 => ?_)
      · have hf := zx_pos c_2 hf
        refine lv_iconst (v := (1 : Int32)) hx hb dX6_makeAnew_55 (by decide) ?_
        refine lv_aload_n hx hb dX6_makeAnew_56 rfl (lv_at hl 0 rfl) ?_
        refine zx_getR (d := 10) hx hb hts hiX6 hown hG shX_0 vc_6 1 (by decide) rfl L1 dX6_makeAnew_57 ?_
        refine zx_getI hx hb hts hiX2 hown hG shX_10 vc_2 1 (by decide) rfl L2 dX6_makeAnew_60 ?_
        refine lv_iadd hx hb dX6_makeAnew_63 ?_
        refine lv_istore (lv' := [(4, .int ((1 : Int32) + (I 10 1))), (0, .ref (ad 0)), (1, .ref (ad (zsC k1))), (2, .int v2), (3, .int v3)]) hx hb dX6_makeAnew_64 hl (by decide) rfl (fun ls hl => ?_)
        refine lv_aload_n hx hb dX6_makeAnew_66 rfl (lv_at hl 1 rfl) ?_
        refine zx_getR (d := 10) hx hb hts hiX6 hown hG shX_0 vc_6 1 (by decide) rfl L1 dX6_makeAnew_67 ?_
        refine lv_iload_n hx hb dX6_makeAnew_70 rfl (lv_at hl 4 rfl) ?_
        refine lv_iload hx hb dX6_makeAnew_71 (lv_at hl 0 rfl) ?_
        refine lv_isub hx hb dX6_makeAnew_73 ?_
        refine lv_iconst (v := (5 : Int32)) hx hb dX6_makeAnew_74 (by decide) ?_
        obtain ⟨g_3, hf⟩ := zx_gd hf
        refine lv_idiv hx hb dX6_makeAnew_75 g_3 ?_
        refine lv_bipush (v := (6 : Int32)) hx hb dX6_makeAnew_76 (by decide) ?_
        refine va_mmin hx hb (hml.trans hl.1.symm) hown L3 L4 L5 L6 (Nat.le_of_ble_eq_true rfl) (Nat.le_of_ble_eq_true rfl) (Nat.le_refl _) (Nat.le_refl _) dX6_makeAnew_78 ?_
        refine zx_putI hx hb hts hiX2 tyX2 tyX2_ok nmX2 hown hG shX_10 vc_2 0 (by decide) rfl L7 rfl (ty := .int) (tyX2_ok 0 (by decide)) rfl rfl dX6_makeAnew_81 (fun H locs hG => ?_)
        refine lv_aload_n hx hb dX6_makeAnew_84 rfl (lv_at hl 1 rfl) ?_
        refine zx_getR (d := 10) hx hb hts hiX6 hown hG shX_0 vc_6 1 (by decide) rfl L1 dX6_makeAnew_85 ?_
        refine lv_iconst (v := (0 : Int32)) hx hb dX6_makeAnew_88 (by decide) ?_
        refine zx_putI hx hb hts hiX2 tyX2 tyX2_ok nmX2 hown hG shX_10 vc_2 5 (by decide) rfl L8 rfl (ty := .int) (tyX2_ok 5 (by decide)) rfl rfl dX6_makeAnew_89 (fun H locs hG => ?_)
        refine lv_iconst (v := (0 : Int32)) hx hb dX6_makeAnew_92 (by decide) ?_
        refine lv_istore (lv' := [(5, .int (0 : Int32)), (4, .int ((1 : Int32) + (I 10 1))), (0, .ref (ad 0)), (1, .ref (ad (zsC k1))), (2, .int v2), (3, .int v3)]) hx hb dX6_makeAnew_93 hl (by decide) rfl (fun ls hl => ?_)
        have loop95 : ∀ (n : Nat) (v2 : Int32) (v4 : Int32) (v5 : Int32) (I : zxI) (H : Heap) (locs : List Loc) (ls : Array Slot), fX6_makeAnew_L95 k1 n v2 v4 v5 I = some J → zxAt D shX ad cA I s sz H locs → lv_has ls 7 [(0, .ref (ad 0)), (1, .ref (ad (zsC k1))), (2, .int v2), (4, .int v4), (5, .int v5)] → W p l e (headSpec wsX6_makeAnew { frames := 2, cells := 0, slots := 0, locals := 45 }).room s m args below meth c H locs 0 0 (MQ below (va_Qv (fun (I2 : zxI) => I2 = J) (zxPost D shX ad cA sz) (zxA shX ad sz)) args s 0 0 (zxA shX ad sz)) (F0 m 95 ls []) := by
          intro n
          induction n with
          | zero =>
            intro v2 v4 v5 I H locs ls hf hG hl
            rw [fX6_makeAnew_L95] at hf
            cases hf
          | succ n95 ih95 =>
            intro v2 v4 v5 I H locs ls hf hG hl
            rw [fX6_makeAnew_L95] at hf
            refine lv_iload hx hb dX6_makeAnew_95 (lv_at hl 4 rfl) ?_
            refine lv_aload_n hx hb dX6_makeAnew_97 rfl (lv_at hl 0 rfl) ?_
            refine zx_getR (d := 10) hx hb hts hiX6 hown hG shX_0 vc_6 1 (by decide) rfl L1 dX6_makeAnew_98 ?_
            refine zx_getI hx hb hts hiX2 hown hG shX_10 vc_2 0 (by decide) rfl L7 dX6_makeAnew_101 ?_
            refine lv_icmp_ge (tgt := 214) hx hb dX6_makeAnew_104 (by decide) (fun c_4 => ?_) (fun c_4 => ?_)
            · have hf := zx_pos c_4 hf
              refine lv_aload_n hx hb dX6_makeAnew_214 rfl (lv_at hl 0 rfl) ?_
              refine zx_getR (d := (zaO 0)) hx hb hts hiX6 hown hG shX_0 vc_6 2 (by decide) rfl L9 dX6_makeAnew_215 ?_
              refine lv_iconst (v := (0 : Int32)) hx hb dX6_makeAnew_218 (by decide) ?_
              refine zx_putI hx hb hts hiX0 tyX0 tyX0_ok nmX0 hown hG (shX_aO (by decide : 0 < 8)) vc_0 1 (by decide) rfl L10 rfl (ty := .int) (tyX0_ok 1 (by decide)) rfl rfl dX6_makeAnew_219 (fun H locs hG => ?_)
              refine lv_aload_n hx hb dX6_makeAnew_222 rfl (lv_at hl 0 rfl) ?_
              refine lv_iconst (v := (0 : Int32)) hx hb dX6_makeAnew_223 (by decide) ?_
              refine zx_putI hx hb hts hiX6 tyX6 tyX6_ok nmX6 hown hG shX_0 vc_6 8 (by decide) rfl L11 rfl (ty := .int) (tyX6_ok 8 (by decide)) rfl rfl dX6_makeAnew_224 (fun H locs hG => ?_)
              refine lv_aload_n hx hb dX6_makeAnew_227 rfl (lv_at hl 0 rfl) ?_
              refine zx_getR (d := 31) hx hb hts hiX6 hown hG shX_0 vc_6 3 (by decide) rfl L12 dX6_makeAnew_228 ?_
              refine lv_iconst (v := (0 : Int32)) hx hb dX6_makeAnew_231 (by decide) ?_
              refine zx_putI hx hb hts hiX3 tyX3 tyX3_ok nmX3 hown hG shX_31 vc_3 0 (by decide) rfl L13 rfl (ty := .int) (tyX3_ok 0 (by decide)) rfl rfl dX6_makeAnew_232 (fun H locs hG => ?_)
              exact zx_vret hx hb hr hlocks hG hf dX6_makeAnew_235
            · have hf := zx_neg c_4 hf
              refine lv_iload_n hx hb dX6_makeAnew_107 rfl (lv_at hl 2 rfl) ?_
              refine lv_iload hx hb dX6_makeAnew_108 (lv_at hl 3 rfl) ?_
              refine lv_iadd hx hb dX6_makeAnew_110 ?_
              refine lv_iconst (v := (5 : Int32)) hx hb dX6_makeAnew_111 (by decide) ?_
              refine lv_iload hx hb dX6_makeAnew_112 (lv_at hl 4 rfl) ?_
              refine lv_imul hx hb dX6_makeAnew_114 ?_
              refine lv_iadd hx hb dX6_makeAnew_115 ?_
              refine lv_istore (lv' := [(6, .int ((v2 + v4) + ((5 : Int32) * v5))), (0, .ref (ad 0)), (1, .ref (ad (zsC k1))), (2, .int v2), (4, .int v4), (5, .int v5)]) hx hb dX6_makeAnew_116 hl (by decide) rfl (fun ls hl => ?_)
              refine lv_aload_n hx hb dX6_makeAnew_118 rfl (lv_at hl 1 rfl) ?_
              refine zx_getR (d := 10) hx hb hts hiX6 hown hG shX_0 vc_6 1 (by decide) rfl L1 dX6_makeAnew_119 ?_
              refine zx_getR (d := 12) hx hb hts hiX2 hown hG shX_10 vc_2 3 (by decide) rfl L14 dX6_makeAnew_122 ?_
              refine lv_iload hx hb dX6_makeAnew_125 (lv_at hl 5 rfl) ?_
              refine lv_aload_n hx hb dX6_makeAnew_127 rfl (lv_at hl 2 rfl) ?_
              refine lv_iload hx hb dX6_makeAnew_128 (lv_at hl 0 rfl) ?_
              refine lv_iconst (v := (1 : Int32)) hx hb dX6_makeAnew_130 (by decide) ?_
              refine lv_iadd hx hb dX6_makeAnew_131 ?_
              obtain ⟨g_5, hf⟩ := zx_in hf
              refine zx_ald hx hb hG (shX_sC hk1) g_5 dX6_makeAnew_132 ?_
              obtain ⟨r_6, I_6, h_6, hf⟩ := zx_b hf
              refine zx_calli (va_runS (As := [.int (I (zsC k1) (((v2 + v4) + ((5 : Int32) * v5)) + (1 : Int32)).toNatClampNeg)]) (rest := [.int v5, .ref (ad 12)]) ⟨hx, hb, hml, hown, hts⟩ (mX6_kindOfLetter l D ad cA (I (zsC k1) (((v2 + v4) + ((5 : Int32) * v5)) + (1 : Int32)).toNatClampNeg) I r_6 I_6 h_6 _) (va_cwS 1 hts gX6_makeAnew_X6_kindOfLetter rfl rfl rfl hd_X6_kindOfLetter ⟨Nat.le_of_ble_eq_true rfl, Nat.le_of_ble_eq_true rfl⟩) (zx_preS hG) rfl rfl hl.1 rfl (lv_room (Nat.le_of_ble_eq_true rfl)) dX6_makeAnew_133 ⟨Nat.le_refl _, Nat.le_refl _⟩) hG (fun H locs hG => ?_)
              obtain ⟨g_7, hf⟩ := zx_in hf
              refine zx_ast hx hb hG shX_12 g_7 dX6_makeAnew_136 (fun H locs hG => ?_)
              refine lv_aload_n hx hb dX6_makeAnew_137 rfl (lv_at hl 1 rfl) ?_
              refine zx_getR (d := (zaO 0)) hx hb hts hiX6 hown hG shX_0 vc_6 2 (by decide) rfl L9 dX6_makeAnew_138 ?_
              refine zx_getR (d := (zaF 0)) hx hb hts hiX0 hown hG (shX_aO (by decide : 0 < 8)) vc_0 0 (by decide) rfl L15 dX6_makeAnew_141 ?_
              refine lv_iload hx hb dX6_makeAnew_144 (lv_at hl 5 rfl) ?_
              refine lv_aload_n hx hb dX6_makeAnew_146 rfl (lv_at hl 2 rfl) ?_
              refine lv_iload hx hb dX6_makeAnew_147 (lv_at hl 0 rfl) ?_
              refine lv_iconst (v := (2 : Int32)) hx hb dX6_makeAnew_149 (by decide) ?_
              refine lv_iadd hx hb dX6_makeAnew_150 ?_
              obtain ⟨g_8, hf⟩ := zx_in hf
              refine zx_ald hx hb hG (shX_sC hk1) g_8 dX6_makeAnew_151 ?_
              refine lv_bipush (v := (48 : Int32)) hx hb dX6_makeAnew_152 (by decide) ?_
              refine lv_isub hx hb dX6_makeAnew_154 ?_
              refine zx_ast hx hb hG (shX_aF (by decide : 0 < 8)) g_7 dX6_makeAnew_155 (fun H locs hG => ?_)
              refine lv_aload_n hx hb dX6_makeAnew_156 rfl (lv_at hl 1 rfl) ?_
              refine zx_getR (d := 10) hx hb hts hiX6 hown hG shX_0 vc_6 1 (by decide) rfl L1 dX6_makeAnew_157 ?_
              refine zx_getR (d := 13) hx hb hts hiX2 hown hG shX_10 vc_2 4 (by decide) rfl L16 dX6_makeAnew_160 ?_
              refine lv_iload hx hb dX6_makeAnew_163 (lv_at hl 5 rfl) ?_
              refine lv_aload_n hx hb dX6_makeAnew_165 rfl (lv_at hl 2 rfl) ?_
              refine lv_iload hx hb dX6_makeAnew_166 (lv_at hl 0 rfl) ?_
              refine lv_iconst (v := (3 : Int32)) hx hb dX6_makeAnew_168 (by decide) ?_
              refine lv_iadd hx hb dX6_makeAnew_169 ?_
              obtain ⟨g_10, hf⟩ := zx_in hf
              refine zx_ald hx hb hG (shX_sC hk1) g_10 dX6_makeAnew_170 ?_
              refine lv_bipush (v := (48 : Int32)) hx hb dX6_makeAnew_171 (by decide) ?_
              refine lv_isub hx hb dX6_makeAnew_173 ?_
              refine zx_ast hx hb hG shX_13 g_7 dX6_makeAnew_174 (fun H locs hG => ?_)
              refine lv_aload_n hx hb dX6_makeAnew_175 rfl (lv_at hl 1 rfl) ?_
              refine lv_iload hx hb dX6_makeAnew_176 (lv_at hl 5 rfl) ?_
              obtain ⟨r_12, I_12, h_12, hf⟩ := zx_b hf
              refine zx_calli (va_runV (As := [.int v5]) (rest := []) ⟨hx, hb, hml, hown, hts⟩ (mX6_isDoor l D ad cA v5 (zxU (zxU (zxU I_6 12 v5.toNatClampNeg r_6) (zaF 0) v5.toNatClampNeg (((zxU I_6 12 v5.toNatClampNeg r_6) (zsC k1) (((v2 + v4) + ((5 : Int32) * v5)) + (2 : Int32)).toNatClampNeg) - (48 : Int32))) 13 v5.toNatClampNeg (((zxU (zxU I_6 12 v5.toNatClampNeg r_6) (zaF 0) v5.toNatClampNeg (((zxU I_6 12 v5.toNatClampNeg r_6) (zsC k1) (((v2 + v4) + ((5 : Int32) * v5)) + (2 : Int32)).toNatClampNeg) - (48 : Int32))) (zsC k1) (((v2 + v4) + ((5 : Int32) * v5)) + (3 : Int32)).toNatClampNeg) - (48 : Int32))) r_12 I_12 h_12 _) (cwV 1 hts gX6_makeAnew_X6_isDoor rfl rfl rfl hd_X6_isDoor ⟨Nat.le_of_ble_eq_true rfl, Nat.le_of_ble_eq_true rfl⟩) (zx_preV hG shX_0 vc_6) rfl rfl hl.1 rfl (lv_room (Nat.le_of_ble_eq_true rfl)) dX6_makeAnew_178 ⟨Nat.le_refl _, Nat.le_refl _⟩) hG (fun H locs hG => ?_)
              refine lv_if_eq (tgt := 208) hx hb dX6_makeAnew_181 (by decide) (fun c_13 => ?_) (fun c_13 => ?_)
              · have hf := zx_pos c_13 hf
                refine lv_iinc (v := (v5 + (1 : Int32))) (lv' := [(5, .int (v5 + (1 : Int32))), (6, .int ((v2 + v4) + ((5 : Int32) * v5))), (0, .ref (ad 0)), (1, .ref (ad (zsC k1))), (2, .int v2), (4, .int v4)]) hx hb dX6_makeAnew_208 hl (k := 5) rfl (congrArg (HAdd.hAdd v5) (by decide)) (by decide) rfl (fun ls hl => ?_)
                refine lv_goto (tgt := 95) hx hb dX6_makeAnew_211 (by decide) ?_
                exact ih95 v2 v4 (v5 + (1 : Int32)) I_12 _ _ ls hf hG (lv_sub hl [2, 3, 4, 5, 0] rfl)
              · have hf := zx_neg c_13 hf
                refine lv_aload_n hx hb dX6_makeAnew_184 rfl (lv_at hl 1 rfl) ?_
                refine zx_getR (d := 10) hx hb hts hiX6 hown hG shX_0 vc_6 1 (by decide) rfl L1 dX6_makeAnew_185 ?_
                refine lv_dup hx hb dX6_makeAnew_188 rfl ?_
                refine zx_getI hx hb hts hiX2 hown hG shX_10 vc_2 5 (by decide) rfl L8 dX6_makeAnew_189 ?_
                refine lv_aload_n hx hb dX6_makeAnew_192 rfl (lv_at hl 2 rfl) ?_
                refine lv_iload hx hb dX6_makeAnew_193 (lv_at hl 0 rfl) ?_
                refine lv_iconst (v := (4 : Int32)) hx hb dX6_makeAnew_195 (by decide) ?_
                refine lv_iadd hx hb dX6_makeAnew_196 ?_
                obtain ⟨g_14, hf⟩ := zx_in hf
                refine zx_ald hx hb hG (shX_sC hk1) g_14 dX6_makeAnew_197 ?_
                refine lv_bipush (v := (48 : Int32)) hx hb dX6_makeAnew_198 (by decide) ?_
                refine lv_isub hx hb dX6_makeAnew_200 ?_
                refine lv_iload hx hb dX6_makeAnew_201 (lv_at hl 5 rfl) ?_
                refine lv_ishl hx hb dX6_makeAnew_203 ?_
                refine lv_ior hx hb dX6_makeAnew_204 ?_
                refine zx_putI hx hb hts hiX2 tyX2 tyX2_ok nmX2 hown hG shX_10 vc_2 5 (by decide) rfl L8 rfl (ty := .int) (tyX2_ok 5 (by decide)) rfl rfl dX6_makeAnew_205 (fun H locs hG => ?_)
                refine lv_iinc (v := (v5 + (1 : Int32))) (lv' := [(5, .int (v5 + (1 : Int32))), (6, .int ((v2 + v4) + ((5 : Int32) * v5))), (0, .ref (ad 0)), (1, .ref (ad (zsC k1))), (2, .int v2), (4, .int v4)]) hx hb dX6_makeAnew_208 hl (k := 5) rfl (congrArg (HAdd.hAdd v5) (by decide)) (by decide) rfl (fun ls hl => ?_)
                refine lv_goto (tgt := 95) hx hb dX6_makeAnew_211 (by decide) ?_
                exact ih95 v2 v4 (v5 + (1 : Int32)) (zxU I_12 10 5 ((I_12 10 5) ||| (((I_12 (zsC k1) (((v2 + v4) + ((5 : Int32) * v5)) + (4 : Int32)).toNatClampNeg) - (48 : Int32)) <<< (v5 &&& 31)))) _ _ ls hf hG (lv_sub hl [2, 3, 4, 5, 0] rfl)
        exact loop95 _ v2 ((1 : Int32) + (I 10 1)) (0 : Int32) (zxU (zxU I 10 0 (if (6 : Int32) < ((v3 - ((1 : Int32) + (I 10 1))) / (5 : Int32)) then (6 : Int32) else ((v3 - ((1 : Int32) + (I 10 1))) / (5 : Int32)))) 10 5 (0 : Int32)) _ _ ls hf hG (lv_sub hl [2, 3, 4, 1, 0] rfl)
      · have hf := zx_neg c_2 hf
        refine lv_aload_n hx hb dX6_makeAnew_28 rfl (lv_at hl 0 rfl) ?_
        refine zx_getR (d := 10) hx hb hts hiX6 hown hG shX_0 vc_6 1 (by decide) rfl L1 dX6_makeAnew_29 ?_
        refine zx_getR (d := 11) hx hb hts hiX2 hown hG shX_10 vc_2 2 (by decide) rfl L17 dX6_makeAnew_32 ?_
        refine lv_iload hx hb dX6_makeAnew_35 (lv_at hl 4 rfl) ?_
        refine lv_aload_n hx hb dX6_makeAnew_37 rfl (lv_at hl 1 rfl) ?_
        refine lv_iload_n hx hb dX6_makeAnew_38 rfl (lv_at hl 2 rfl) ?_
        refine lv_iconst (v := (1 : Int32)) hx hb dX6_makeAnew_39 (by decide) ?_
        refine lv_iadd hx hb dX6_makeAnew_40 ?_
        refine lv_iload hx hb dX6_makeAnew_41 (lv_at hl 4 rfl) ?_
        refine lv_iadd hx hb dX6_makeAnew_43 ?_
        obtain ⟨g_15, hf⟩ := zx_in hf
        refine zx_ald hx hb hG (shX_sC hk1) g_15 dX6_makeAnew_44 ?_
        refine lv_bipush (v := (48 : Int32)) hx hb dX6_makeAnew_45 (by decide) ?_
        refine lv_isub hx hb dX6_makeAnew_47 ?_
        obtain ⟨g_16, hf⟩ := zx_in hf
        refine zx_ast hx hb hG shX_11 g_16 dX6_makeAnew_48 (fun H locs hG => ?_)
        refine lv_iinc (v := (v4 + (1 : Int32))) (lv' := [(4, .int (v4 + (1 : Int32))), (0, .ref (ad 0)), (1, .ref (ad (zsC k1))), (2, .int v2), (3, .int v3)]) hx hb dX6_makeAnew_49 hl (k := 4) rfl (congrArg (HAdd.hAdd v4) (by decide)) (by decide) rfl (fun ls hl => ?_)
        refine lv_goto (tgt := 16) hx hb dX6_makeAnew_52 (by decide) ?_
        exact ih16 v2 v3 (v4 + (1 : Int32)) (zxU I 11 v4.toNatClampNeg ((I (zsC k1) ((v2 + (1 : Int32)) + v4).toNatClampNeg) - (48 : Int32))) _ _ ls hf hG (lv_sub hl [1, 2, 3, 4, 0] rfl)
  exact loop16 _ x2 x3 (0 : Int32) (zxU I_1 10 1 r_1) _ _ ls hf hG (lv_sub hl [1, 2, 3, 4, 0] rfl)

set_option maxHeartbeats 4000000 in
set_option maxRecDepth 100000 in
theorem mX6_mine (l : Launch) (D : va_G) (ad : Nat → Nat) (cA : Nat → ClassId) (x1 : Int32) (x2 : Int32) (x3 : Int32) (x4 : Int32) (I : zxI) (r : Int32) (J : zxI) (hf : fX6_mine x1 x2 x3 x4 I = some (r, J)) (sz : Nat) : Met l yX6_mine wsX6_mine { frames := 3, cells := 0, slots := 0, locals := 71 } (va_Pc [.ref (ad 0), .int x1, .int x2, .int x3, .int x4] (zxPre D shX ad cA I sz)) (va_Qi (fun (r2 : Int32) (I2 : zxI) => r2 = r ∧ I2 = J) (zxPost D shX ad cA sz) (zxA shX ad sz)) 0 0 (zxA shX ad sz) := by
  refine zx_start (by decide) rfl (Nat.le_of_ble_eq_true rfl) ?_
  intro p e s m args below meth c ls hx hb hr hts hown hlocks hml hG hl
  have hl : lv_has ls 8 [(0, .ref (ad 0)), (1, .int x1), (2, .int x2), (3, .int x3), (4, .int x4)] := hl
  have hiX2 : ∀ w ∈ wsX20, w ∈ wsX6_mine := fun w h => List.mem_cons_of_mem _ (List.mem_append_left _ (List.mem_append_left _ (List.mem_append_right _ h)))
  have hiX5 : ∀ w ∈ wsX50, w ∈ wsX6_mine := fun w h => List.mem_cons_of_mem _ (List.mem_append_left _ (List.mem_append_left _ (List.mem_append_left _ (List.mem_append_right _ h))))
  have hiX6 : ∀ w ∈ wsX60, w ∈ wsX6_mine := fun w h => List.mem_cons_of_mem _ (List.mem_append_left _ (List.mem_append_left _ (List.mem_append_left _ (List.mem_append_left _ (List.mem_append_right _ h)))))
  have L1 := hts (Cond.fieldLink RX6 67 "GalleryBirds" "lastFault" "I") (List.mem_of_getElem? (i := 1) rfl)
  have L2 := hts (Cond.fieldLink RX6 13 "GalleryBirds" "sheets" "[LGalleryBirds$Sheet;") (List.mem_of_getElem? (i := 2) rfl)
  have L3 := hts (Cond.fieldLink RX6 86 "GalleryBirds$Sheet" "cells" "[I") (List.mem_of_getElem? (i := 3) rfl)
  have L4 := hts (Cond.fieldLink RX6 20 "GalleryBirds" "pit" "LGalleryBirds$Pit;") (List.mem_of_getElem? (i := 4) rfl)
  have L5 := hts (Cond.fieldLink RX6 97 "GalleryBirds$Pit" "galleries" "I") (List.mem_of_getElem? (i := 5) rfl)
  unfold fX6_mine at hf
  refine lv_aload_n hx hb dX6_mine_0 rfl (lv_at hl 0 rfl) ?_
  refine lv_iconst (v := (0 : Int32)) hx hb dX6_mine_1 (by decide) ?_
  refine zx_putI hx hb hts hiX6 tyX6 tyX6_ok nmX6 hown hG shX_0 vc_6 10 (by decide) rfl L1 rfl (ty := .int) (tyX6_ok 10 (by decide)) rfl rfl dX6_mine_2 (fun H locs hG => ?_)
  refine lv_iload_n hx hb dX6_mine_5 rfl (lv_at hl 1 rfl) ?_
  obtain ⟨r_1, I_1, h_1, hf⟩ := zx_b hf
  refine zx_calli (va_runS (As := [.int x1]) (rest := []) ⟨hx, hb, hml, hown, hts⟩ (mX6_isSheet l D ad cA x1 (zxU I 0 10 (0 : Int32)) r_1 I_1 h_1 _) (va_cwS 1 hts gX6_mine_X6_isSheet rfl rfl rfl hd_X6_isSheet ⟨Nat.le_of_ble_eq_true rfl, Nat.le_of_ble_eq_true rfl⟩) (zx_preS hG) rfl rfl hl.1 rfl (lv_room (Nat.le_of_ble_eq_true rfl)) dX6_mine_6 ⟨Nat.le_refl _, Nat.le_refl _⟩) hG (fun H locs hG => ?_)
  refine lv_if_ne (tgt := 14) hx hb dX6_mine_9 (by decide) (fun c_2 => ?_) (fun c_2 => ?_)
  · have hf := zx_neg c_2 hf
    refine lv_iload_n hx hb dX6_mine_14 rfl (lv_at hl 2 rfl) ?_
    obtain ⟨r_3, I_3, h_3, hf⟩ := zx_b hf
    refine zx_calli (va_runS (As := [.int x2]) (rest := []) ⟨hx, hb, hml, hown, hts⟩ (mX6_isLane l D ad cA x2 I_1 r_3 I_3 h_3 _) (va_cwS 1 hts gX6_mine_X6_isLane rfl rfl rfl hd_X6_isLane ⟨Nat.le_of_ble_eq_true rfl, Nat.le_of_ble_eq_true rfl⟩) (zx_preS hG) rfl rfl hl.1 rfl (lv_room (Nat.le_of_ble_eq_true rfl)) dX6_mine_15 ⟨Nat.le_refl _, Nat.le_refl _⟩) hG (fun H locs hG => ?_)
    refine lv_if_ne (tgt := 24) hx hb dX6_mine_18 (by decide) (fun c_4 => ?_) (fun c_4 => ?_)
    · have hf := zx_neg c_4 hf
      refine lv_aload_n hx hb dX6_mine_24 rfl (lv_at hl 0 rfl) ?_
      refine zx_getR (d := 1) hx hb hts hiX6 hown hG shX_0 vc_6 0 (by decide) rfl L2 dX6_mine_25 ?_
      refine lv_iload_n hx hb dX6_mine_28 rfl (lv_at hl 1 rfl) ?_
      obtain ⟨g_5, hf⟩ := zx_in hf
      refine zx_aldR (d := (zsO (x1.toNatClampNeg))) (t := 1) hx hb hG shX_1 rfl g_5 (shX_rs (zx_lt g_5)) dX6_mine_29 ?_
      refine lv_astore (lv' := [(5, .ref (ad (zsO (x1.toNatClampNeg)))), (0, .ref (ad 0)), (1, .int x1), (2, .int x2), (3, .int x3), (4, .int x4)]) hx hb dX6_mine_30 hl (by decide) rfl (fun ls hl => ?_)
      refine lv_aload hx hb dX6_mine_32 (lv_at hl 0 rfl) ?_
      refine lv_iload_n hx hb dX6_mine_34 rfl (lv_at hl 3 rfl) ?_
      refine lv_iload_n hx hb dX6_mine_35 rfl (lv_at hl 4 rfl) ?_
      refine lv_iload hx hb dX6_mine_36 (lv_at hl 5 rfl) ?_
      obtain ⟨r_6, I_6, h_6, hf⟩ := zx_b hf
      refine zx_calli (va_runV (As := [.int x2, .int x3, .int x4]) (rest := []) ⟨hx, hb, hml, hown, hts⟩ (mX5_faultOfCells l D ad cA (x1.toNatClampNeg) (zx_lt g_5) x2 x3 x4 I_3 r_6 I_6 h_6 _) (cwV 3 hts gX6_mine_X5_faultOfCells rfl rfl rfl hd_X5_faultOfCells ⟨Nat.le_of_ble_eq_true rfl, Nat.le_of_ble_eq_true rfl⟩) (zx_preV hG (shX_sO (zx_lt g_5)) vc_5) rfl rfl hl.1 rfl (lv_room (Nat.le_of_ble_eq_true rfl)) dX6_mine_38 ⟨Nat.le_refl _, Nat.le_refl _⟩) hG (fun H locs hG => ?_)
      refine lv_istore (lv' := [(6, .int r_6), (5, .ref (ad (zsO (x1.toNatClampNeg)))), (0, .ref (ad 0)), (1, .int x1), (2, .int x2), (3, .int x3), (4, .int x4)]) hx hb dX6_mine_41 hl (by decide) rfl (fun ls hl => ?_)
      refine lv_iload hx hb dX6_mine_43 (lv_at hl 0 rfl) ?_
      refine lv_if_eq (tgt := 55) hx hb dX6_mine_45 (by decide) (fun c_7 => ?_) (fun c_7 => ?_)
      · have hf := zx_pos c_7 hf
        refine lv_aload hx hb dX6_mine_55 (lv_at hl 1 rfl) ?_
        refine zx_getR (d := (zsC (x1.toNatClampNeg))) hx hb hts hiX5 hown hG (shX_sO (zx_lt g_5)) vc_5 2 (by decide) rfl L3 dX6_mine_57 ?_
        refine lv_iload_n hx hb dX6_mine_60 rfl (lv_at hl 5 rfl) ?_
        refine lv_iload hx hb dX6_mine_61 (lv_at hl 6 rfl) ?_
        obtain ⟨r_8, I_8, h_8, hf⟩ := zx_b hf
        refine zx_calli (va_runS (As := [.ref (ad (zsC (x1.toNatClampNeg))), .int x3, .int x4]) (rest := []) ⟨hx, hb, hml, hown, hts⟩ (mX6_firstFaultOfText l D ad cA (x1.toNatClampNeg) (zx_lt g_5) x3 x4 I_6 r_8 I_8 h_8 _) (va_cwS 3 hts gX6_mine_X6_firstFaultOfText rfl rfl rfl hd_X6_firstFaultOfText ⟨Nat.le_of_ble_eq_true rfl, Nat.le_of_ble_eq_true rfl⟩) (zx_preS hG) rfl rfl hl.1 rfl (lv_room (Nat.le_of_ble_eq_true rfl)) dX6_mine_63 ⟨Nat.le_refl _, Nat.le_refl _⟩) hG (fun H locs hG => ?_)
        refine lv_istore (lv' := [(7, .int r_8), (6, .int r_6), (5, .ref (ad (zsO (x1.toNatClampNeg)))), (0, .ref (ad 0)), (1, .int x1), (2, .int x2), (3, .int x3), (4, .int x4)]) hx hb dX6_mine_66 hl (by decide) rfl (fun ls hl => ?_)
        refine lv_iload hx hb dX6_mine_68 (lv_at hl 0 rfl) ?_
        refine lv_bipush (v := (-9 : Int32)) hx hb dX6_mine_70 (by decide) ?_
        refine lv_icmp_eq (tgt := 81) hx hb dX6_mine_72 (by decide) (fun c_9 => ?_) (fun c_9 => ?_)
        · have hf := zx_pos c_9 hf
          refine lv_aload_n hx hb dX6_mine_81 rfl (lv_at hl 3 rfl) ?_
          refine lv_aload hx hb dX6_mine_82 (lv_at hl 2 rfl) ?_
          refine zx_getR (d := (zsC (x1.toNatClampNeg))) hx hb hts hiX5 hown hG (shX_sO (zx_lt g_5)) vc_5 2 (by decide) rfl L3 dX6_mine_84 ?_
          refine lv_iload_n hx hb dX6_mine_87 rfl (lv_at hl 6 rfl) ?_
          refine lv_iload hx hb dX6_mine_88 (lv_at hl 7 rfl) ?_
          obtain ⟨I_10, h_10, hf⟩ := zx_v hf
          refine zx_callv (va_runV (As := [.ref (ad (zsC (x1.toNatClampNeg))), .int x3, .int x4]) (rest := []) ⟨hx, hb, hml, hown, hts⟩ (mX6_makeAnew l D ad cA (x1.toNatClampNeg) (zx_lt g_5) x3 x4 I_8 I_10 h_10 _) (cwV 3 hts gX6_mine_X6_makeAnew rfl rfl rfl hd_X6_makeAnew ⟨Nat.le_of_ble_eq_true rfl, Nat.le_of_ble_eq_true rfl⟩) (zx_preV hG shX_0 vc_6) rfl rfl hl.1 rfl (lv_room (Nat.le_of_ble_eq_true rfl)) dX6_mine_90 ⟨Nat.le_refl _, Nat.le_refl _⟩) hG (fun H locs hG => ?_)
          refine lv_aload_n hx hb dX6_mine_93 rfl (lv_at hl 3 rfl) ?_
          refine zx_getR (d := 10) hx hb hts hiX6 hown hG shX_0 vc_6 1 (by decide) rfl L4 dX6_mine_94 ?_
          refine zx_getI hx hb hts hiX2 hown hG shX_10 vc_2 0 (by decide) rfl L5 dX6_mine_97 ?_
          exact zx_iret hx hb hr hlocks rfl hG hf dX6_mine_100
        · have hf := zx_neg c_9 hf
          refine lv_bipush (v := (-100 : Int32)) hx hb dX6_mine_75 (by decide) ?_
          refine lv_iload hx hb dX6_mine_77 (lv_at hl 0 rfl) ?_
          refine lv_isub hx hb dX6_mine_79 ?_
          exact zx_iret hx hb hr hlocks rfl hG hf dX6_mine_80
      · have hf := zx_neg c_7 hf
        refine lv_aload_n hx hb dX6_mine_48 rfl (lv_at hl 2 rfl) ?_
        refine lv_iload hx hb dX6_mine_49 (lv_at hl 0 rfl) ?_
        obtain ⟨r_11, I_11, h_11, hf⟩ := zx_b hf
        refine zx_calli (va_runV (As := [.int r_6]) (rest := []) ⟨hx, hb, hml, hown, hts⟩ (mX6_faulted l D ad cA r_6 I_6 r_11 I_11 h_11 _) (cwV 1 hts gX6_mine_X6_faulted rfl rfl rfl hd_X6_faulted ⟨Nat.le_of_ble_eq_true rfl, Nat.le_of_ble_eq_true rfl⟩) (zx_preV hG shX_0 vc_6) rfl rfl hl.1 rfl (lv_room (Nat.le_of_ble_eq_true rfl)) dX6_mine_51 ⟨Nat.le_refl _, Nat.le_refl _⟩) hG (fun H locs hG => ?_)
        exact zx_iret hx hb hr hlocks rfl hG hf dX6_mine_54
    · have hf := zx_pos c_4 hf
      refine lv_bipush (v := (-2 : Int32)) hx hb dX6_mine_21 (by decide) ?_
      exact zx_iret hx hb hr hlocks rfl hG hf dX6_mine_23
  · have hf := zx_pos c_2 hf
    refine lv_iconst (v := (-1 : Int32)) hx hb dX6_mine_12 (by decide) ?_
    exact zx_iret hx hb hr hlocks rfl hG hf dX6_mine_13

set_option maxHeartbeats 4000000 in
set_option maxRecDepth 100000 in
theorem mX6_isGallery (l : Launch) (D : va_G) (ad : Nat → Nat) (cA : Nat → ClassId) (x1 : Int32) (I : zxI) (r : Int32) (J : zxI) (hf : fX6_isGallery x1 I = some (r, J)) (sz : Nat) : Met l yX6_isGallery wsX6_isGallery { frames := 0, cells := 0, slots := 0, locals := 0 } (va_Pc [.ref (ad 0), .int x1] (zxPre D shX ad cA I sz)) (va_Qi (fun (r2 : Int32) (I2 : zxI) => r2 = r ∧ I2 = J) (zxPost D shX ad cA sz) (zxA shX ad sz)) 0 0 (zxA shX ad sz) := by
  refine zx_start (by decide) rfl (Nat.le_of_ble_eq_true rfl) ?_
  intro p e s m args below meth c ls hx hb hr hts hown hlocks hml hG hl
  have hl : lv_has ls 2 [(0, .ref (ad 0)), (1, .int x1)] := hl
  have hiX2 : ∀ w ∈ wsX20, w ∈ wsX6_isGallery := fun w h => List.mem_cons_of_mem _ (List.mem_append_right _ h)
  have hiX6 : ∀ w ∈ wsX60, w ∈ wsX6_isGallery := fun w h => List.mem_cons_of_mem _ (List.mem_append_left _ (List.mem_append_right _ h))
  have L1 := hts (Cond.fieldLink RX6 20 "GalleryBirds" "pit" "LGalleryBirds$Pit;") (List.mem_of_getElem? (i := 1) rfl)
  have L2 := hts (Cond.fieldLink RX6 97 "GalleryBirds$Pit" "galleries" "I") (List.mem_of_getElem? (i := 2) rfl)
  unfold fX6_isGallery at hf
  refine lv_iload_n hx hb dX6_isGallery_0 rfl (lv_at hl 1 rfl) ?_
  refine lv_if_lt (tgt := 19) hx hb dX6_isGallery_1 (by decide) (fun c_1 => ?_) (fun c_1 => ?_)
  · have hf := zx_pos c_1 hf
    refine lv_iconst (v := (0 : Int32)) hx hb dX6_isGallery_19 (by decide) ?_
    exact zx_iret hx hb hr hlocks rfl hG hf dX6_isGallery_20
  · have hf := zx_neg c_1 hf
    refine lv_iload_n hx hb dX6_isGallery_4 rfl (lv_at hl 1 rfl) ?_
    refine lv_aload_n hx hb dX6_isGallery_5 rfl (lv_at hl 0 rfl) ?_
    refine zx_getR (d := 10) hx hb hts hiX6 hown hG shX_0 vc_6 1 (by decide) rfl L1 dX6_isGallery_6 ?_
    refine zx_getI hx hb hts hiX2 hown hG shX_10 vc_2 0 (by decide) rfl L2 dX6_isGallery_9 ?_
    refine lv_icmp_ge (tgt := 19) hx hb dX6_isGallery_12 (by decide) (fun c_2 => ?_) (fun c_2 => ?_)
    · have hf := zx_pos c_2 hf
      refine lv_iconst (v := (0 : Int32)) hx hb dX6_isGallery_19 (by decide) ?_
      exact zx_iret hx hb hr hlocks rfl hG hf dX6_isGallery_20
    · have hf := zx_neg c_2 hf
      refine lv_iconst (v := (1 : Int32)) hx hb dX6_isGallery_15 (by decide) ?_
      refine lv_goto (tgt := 20) hx hb dX6_isGallery_16 (by decide) ?_
      exact zx_iret hx hb hr hlocks rfl hG hf dX6_isGallery_20

set_option maxHeartbeats 4000000 in
set_option maxRecDepth 100000 in
theorem mX6_ofGallery (l : Launch) (D : va_G) (ad : Nat → Nat) (cA : Nat → ClassId) (x1 : Int32) (x2 : Int32) (I : zxI) (r : Int32) (J : zxI) (hf : fX6_ofGallery x1 x2 I = some (r, J)) (sz : Nat) : Met l yX6_ofGallery wsX6_ofGallery { frames := 2, cells := 0, slots := 0, locals := 42 } (va_Pc [.ref (ad 0), .int x1, .int x2] (zxPre D shX ad cA I sz)) (va_Qi (fun (r2 : Int32) (I2 : zxI) => r2 = r ∧ I2 = J) (zxPost D shX ad cA sz) (zxA shX ad sz)) 0 0 (zxA shX ad sz) := by
  refine zx_start (by decide) rfl (Nat.le_of_ble_eq_true rfl) ?_
  intro p e s m args below meth c ls hx hb hr hts hown hlocks hml hG hl
  have hl : lv_has ls 3 [(0, .ref (ad 0)), (1, .int x1), (2, .int x2)] := hl
  have hiX0 : ∀ w ∈ wsX00, w ∈ wsX6_ofGallery := fun w h => List.mem_cons_of_mem _ (List.mem_append_right _ h)
  have hiX2 : ∀ w ∈ wsX20, w ∈ wsX6_ofGallery := fun w h => List.mem_cons_of_mem _ (List.mem_append_left _ (List.mem_append_right _ h))
  have hiX6 : ∀ w ∈ wsX60, w ∈ wsX6_ofGallery := fun w h => List.mem_cons_of_mem _ (List.mem_append_left _ (List.mem_append_left _ (List.mem_append_right _ h)))
  have L1 := hts (Cond.fieldLink RX6 20 "GalleryBirds" "pit" "LGalleryBirds$Pit;") (List.mem_of_getElem? (i := 1) rfl)
  have L2 := hts (Cond.fieldLink RX6 103 "GalleryBirds$Pit" "kinds" "[I") (List.mem_of_getElem? (i := 2) rfl)
  have L3 := hts (Cond.fieldLink RX6 27 "GalleryBirds" "air" "LGalleryBirds$Air;") (List.mem_of_getElem? (i := 3) rfl)
  have L4 := hts (Cond.fieldLink RX6 106 "GalleryBirds$Air" "fouls" "[I") (List.mem_of_getElem? (i := 4) rfl)
  have L5 := hts (Cond.fieldLink RX6 109 "GalleryBirds$Pit" "strengths" "[I") (List.mem_of_getElem? (i := 5) rfl)
  have L6 := hts (Cond.fieldLink RX6 115 "GalleryBirds$Air" "down" "I") (List.mem_of_getElem? (i := 6) rfl)
  have L7 := hts (Cond.fieldLink RX6 121 "GalleryBirds$Pit" "doors" "I") (List.mem_of_getElem? (i := 7) rfl)
  unfold fX6_ofGallery at hf
  refine lv_aload_n hx hb dX6_ofGallery_0 rfl (lv_at hl 0 rfl) ?_
  refine lv_iload_n hx hb dX6_ofGallery_1 rfl (lv_at hl 1 rfl) ?_
  obtain ⟨r_1, I_1, h_1, hf⟩ := zx_b hf
  refine zx_calli (va_runV (As := [.int x1]) (rest := []) ⟨hx, hb, hml, hown, hts⟩ (mX6_isGallery l D ad cA x1 I r_1 I_1 h_1 _) (cwV 1 hts gX6_ofGallery_X6_isGallery rfl rfl rfl hd_X6_isGallery ⟨Nat.le_of_ble_eq_true rfl, Nat.le_of_ble_eq_true rfl⟩) (zx_preV hG shX_0 vc_6) rfl rfl hl.1 rfl (lv_room (Nat.le_of_ble_eq_true rfl)) dX6_ofGallery_2 ⟨Nat.le_refl _, Nat.le_refl _⟩) hG (fun H locs hG => ?_)
  refine lv_if_ne (tgt := 10) hx hb dX6_ofGallery_5 (by decide) (fun c_2 => ?_) (fun c_2 => ?_)
  · have hf := zx_neg c_2 hf
    refine lv_iload_n hx hb dX6_ofGallery_10 rfl (lv_at hl 2 rfl) ?_
    by_cases c_3 : x2 = (0 : Int32)
    · have hf := zx_pos c_3 hf
      refine lv_tableIn (off := 37) (tgt := 48) hx hb dX6_ofGallery_11 (by rw [c_3]; decide) (by rw [c_3]; decide) (by rw [c_3]; decide) (by decide) ?_
      refine lv_aload_n hx hb dX6_ofGallery_48 rfl (lv_at hl 0 rfl) ?_
      refine zx_getR (d := 10) hx hb hts hiX6 hown hG shX_0 vc_6 1 (by decide) rfl L1 dX6_ofGallery_49 ?_
      refine zx_getR (d := 12) hx hb hts hiX2 hown hG shX_10 vc_2 3 (by decide) rfl L2 dX6_ofGallery_52 ?_
      refine lv_iload_n hx hb dX6_ofGallery_55 rfl (lv_at hl 1 rfl) ?_
      obtain ⟨g_9, hf⟩ := zx_in hf
      refine zx_ald hx hb hG shX_12 g_9 dX6_ofGallery_56 ?_
      exact zx_iret hx hb hr hlocks rfl hG hf dX6_ofGallery_57
    have hf := zx_neg c_3 hf
    by_cases c_4 : x2 = (1 : Int32)
    · have hf := zx_pos c_4 hf
      refine lv_tableIn (off := 47) (tgt := 58) hx hb dX6_ofGallery_11 (by rw [c_4]; decide) (by rw [c_4]; decide) (by rw [c_4]; decide) (by decide) ?_
      refine lv_aload_n hx hb dX6_ofGallery_58 rfl (lv_at hl 0 rfl) ?_
      refine zx_getR (d := (zaO 0)) hx hb hts hiX6 hown hG shX_0 vc_6 2 (by decide) rfl L3 dX6_ofGallery_59 ?_
      refine zx_getR (d := (zaF 0)) hx hb hts hiX0 hown hG (shX_aO (by decide : 0 < 8)) vc_0 0 (by decide) rfl L4 dX6_ofGallery_62 ?_
      refine lv_iload_n hx hb dX6_ofGallery_65 rfl (lv_at hl 1 rfl) ?_
      obtain ⟨g_10, hf⟩ := zx_in hf
      refine zx_ald hx hb hG (shX_aF (by decide : 0 < 8)) g_10 dX6_ofGallery_66 ?_
      exact zx_iret hx hb hr hlocks rfl hG hf dX6_ofGallery_67
    have hf := zx_neg c_4 hf
    by_cases c_5 : x2 = (2 : Int32)
    · have hf := zx_pos c_5 hf
      refine lv_tableIn (off := 57) (tgt := 68) hx hb dX6_ofGallery_11 (by rw [c_5]; decide) (by rw [c_5]; decide) (by rw [c_5]; decide) (by decide) ?_
      refine lv_aload_n hx hb dX6_ofGallery_68 rfl (lv_at hl 0 rfl) ?_
      refine zx_getR (d := 10) hx hb hts hiX6 hown hG shX_0 vc_6 1 (by decide) rfl L1 dX6_ofGallery_69 ?_
      refine zx_getR (d := 13) hx hb hts hiX2 hown hG shX_10 vc_2 4 (by decide) rfl L5 dX6_ofGallery_72 ?_
      refine lv_iload_n hx hb dX6_ofGallery_75 rfl (lv_at hl 1 rfl) ?_
      obtain ⟨g_11, hf⟩ := zx_in hf
      refine zx_ald hx hb hG shX_13 g_11 dX6_ofGallery_76 ?_
      exact zx_iret hx hb hr hlocks rfl hG hf dX6_ofGallery_77
    have hf := zx_neg c_5 hf
    by_cases c_6 : x2 = (3 : Int32)
    · have hf := zx_pos c_6 hf
      refine lv_tableIn (off := 67) (tgt := 78) hx hb dX6_ofGallery_11 (by rw [c_6]; decide) (by rw [c_6]; decide) (by rw [c_6]; decide) (by decide) ?_
      refine lv_aload_n hx hb dX6_ofGallery_78 rfl (lv_at hl 0 rfl) ?_
      refine zx_getR (d := 10) hx hb hts hiX6 hown hG shX_0 vc_6 1 (by decide) rfl L1 dX6_ofGallery_79 ?_
      refine lv_iload_n hx hb dX6_ofGallery_82 rfl (lv_at hl 1 rfl) ?_
      obtain ⟨r_12, I_12, h_12, hf⟩ := zx_b hf
      refine zx_calli (va_runV (As := [.int x1]) (rest := []) ⟨hx, hb, hml, hown, hts⟩ (mX2_bears l D ad cA x1 I_1 r_12 I_12 h_12 _) (cwV 1 hts gX6_ofGallery_X2_bears rfl rfl rfl hd_X2_bears ⟨Nat.le_of_ble_eq_true rfl, Nat.le_of_ble_eq_true rfl⟩) (zx_preV hG shX_10 vc_2) rfl rfl hl.1 rfl (lv_room (Nat.le_of_ble_eq_true rfl)) dX6_ofGallery_83 ⟨Nat.le_refl _, Nat.le_refl _⟩) hG (fun H locs hG => ?_)
      exact zx_iret hx hb hr hlocks rfl hG hf dX6_ofGallery_86
    have hf := zx_neg c_6 hf
    by_cases c_7 : x2 = (4 : Int32)
    · have hf := zx_pos c_7 hf
      refine lv_tableIn (off := 76) (tgt := 87) hx hb dX6_ofGallery_11 (by rw [c_7]; decide) (by rw [c_7]; decide) (by rw [c_7]; decide) (by decide) ?_
      refine lv_aload_n hx hb dX6_ofGallery_87 rfl (lv_at hl 0 rfl) ?_
      refine zx_getR (d := (zaO 0)) hx hb hts hiX6 hown hG shX_0 vc_6 2 (by decide) rfl L3 dX6_ofGallery_88 ?_
      refine zx_getI hx hb hts hiX0 hown hG (shX_aO (by decide : 0 < 8)) vc_0 1 (by decide) rfl L6 dX6_ofGallery_91 ?_
      refine lv_iload_n hx hb dX6_ofGallery_94 rfl (lv_at hl 1 rfl) ?_
      refine lv_ishr hx hb dX6_ofGallery_95 ?_
      refine lv_iconst (v := (1 : Int32)) hx hb dX6_ofGallery_96 (by decide) ?_
      refine lv_iand hx hb dX6_ofGallery_97 ?_
      exact zx_iret hx hb hr hlocks rfl hG hf dX6_ofGallery_98
    have hf := zx_neg c_7 hf
    by_cases c_8 : x2 = (5 : Int32)
    · have hf := zx_pos c_8 hf
      refine lv_tableIn (off := 88) (tgt := 99) hx hb dX6_ofGallery_11 (by rw [c_8]; decide) (by rw [c_8]; decide) (by rw [c_8]; decide) (by decide) ?_
      refine lv_aload_n hx hb dX6_ofGallery_99 rfl (lv_at hl 0 rfl) ?_
      refine lv_iload_n hx hb dX6_ofGallery_100 rfl (lv_at hl 1 rfl) ?_
      obtain ⟨r_13, I_13, h_13, hf⟩ := zx_b hf
      refine zx_calli (va_runV (As := [.int x1]) (rest := []) ⟨hx, hb, hml, hown, hts⟩ (mX6_isDoor l D ad cA x1 I_1 r_13 I_13 h_13 _) (cwV 1 hts gX6_ofGallery_X6_isDoor rfl rfl rfl hd_X6_isDoor ⟨Nat.le_of_ble_eq_true rfl, Nat.le_of_ble_eq_true rfl⟩) (zx_preV hG shX_0 vc_6) rfl rfl hl.1 rfl (lv_room (Nat.le_of_ble_eq_true rfl)) dX6_ofGallery_101 ⟨Nat.le_refl _, Nat.le_refl _⟩) hG (fun H locs hG => ?_)
      refine lv_if_eq (tgt := 121) hx hb dX6_ofGallery_104 (by decide) (fun c_14 => ?_) (fun c_14 => ?_)
      · have hf := zx_pos c_14 hf
        refine lv_bipush (v := (-9 : Int32)) hx hb dX6_ofGallery_121 (by decide) ?_
        exact zx_iret hx hb hr hlocks rfl hG hf dX6_ofGallery_123
      · have hf := zx_neg c_14 hf
        refine lv_aload_n hx hb dX6_ofGallery_107 rfl (lv_at hl 0 rfl) ?_
        refine zx_getR (d := 10) hx hb hts hiX6 hown hG shX_0 vc_6 1 (by decide) rfl L1 dX6_ofGallery_108 ?_
        refine zx_getI hx hb hts hiX2 hown hG shX_10 vc_2 5 (by decide) rfl L7 dX6_ofGallery_111 ?_
        refine lv_iload_n hx hb dX6_ofGallery_114 rfl (lv_at hl 1 rfl) ?_
        refine lv_ishr hx hb dX6_ofGallery_115 ?_
        refine lv_iconst (v := (1 : Int32)) hx hb dX6_ofGallery_116 (by decide) ?_
        refine lv_iand hx hb dX6_ofGallery_117 ?_
        refine lv_goto (tgt := 123) hx hb dX6_ofGallery_118 (by decide) ?_
        exact zx_iret hx hb hr hlocks rfl hG hf dX6_ofGallery_123
    have hf := zx_neg c_8 hf
    refine lv_tableOut (tgt := 124) hx hb dX6_ofGallery_11 (zx_tabOut 5 (by decide) (fun k hk => by rcases (show k = 0 ∨ k = 1 ∨ k = 2 ∨ k = 3 ∨ k = 4 ∨ k = 5 by omega) with rfl | rfl | rfl | rfl | rfl | rfl <;> assumption)) (by decide) ?_
    refine lv_bipush (v := (-2 : Int32)) hx hb dX6_ofGallery_124 (by decide) ?_
    exact zx_iret hx hb hr hlocks rfl hG hf dX6_ofGallery_126
  · have hf := zx_pos c_2 hf
    refine lv_iconst (v := (-1 : Int32)) hx hb dX6_ofGallery_8 (by decide) ?_
    exact zx_iret hx hb hr hlocks rfl hG hf dX6_ofGallery_9

set_option maxHeartbeats 4000000 in
set_option maxRecDepth 100000 in
theorem mX6_isWord (l : Launch) (D : va_G) (ad : Nat → Nat) (cA : Nat → ClassId) (x1 : Int32) (I : zxI) (r : Int32) (J : zxI) (hf : fX6_isWord x1 I = some (r, J)) (sz : Nat) : Met l yX6_isWord wsX6_isWord { frames := 0, cells := 0, slots := 0, locals := 0 } (va_Pc [.ref (ad 0), .int x1] (zxPre D shX ad cA I sz)) (va_Qi (fun (r2 : Int32) (I2 : zxI) => r2 = r ∧ I2 = J) (zxPost D shX ad cA sz) (zxA shX ad sz)) 0 0 (zxA shX ad sz) := by
  refine zx_start (by decide) rfl (Nat.le_of_ble_eq_true rfl) ?_
  intro p e s m args below meth c ls hx hb hr hts hown hlocks hml hG hl
  have hl : lv_has ls 2 [(0, .ref (ad 0)), (1, .int x1)] := hl
  have hiX2 : ∀ w ∈ wsX20, w ∈ wsX6_isWord := fun w h => List.mem_cons_of_mem _ (List.mem_append_right _ h)
  have hiX6 : ∀ w ∈ wsX60, w ∈ wsX6_isWord := fun w h => List.mem_cons_of_mem _ (List.mem_append_left _ (List.mem_append_right _ h))
  have L1 := hts (Cond.fieldLink RX6 20 "GalleryBirds" "pit" "LGalleryBirds$Pit;") (List.mem_of_getElem? (i := 1) rfl)
  have L2 := hts (Cond.fieldLink RX6 196 "GalleryBirds$Pit" "words" "I") (List.mem_of_getElem? (i := 2) rfl)
  unfold fX6_isWord at hf
  refine lv_iload_n hx hb dX6_isWord_0 rfl (lv_at hl 1 rfl) ?_
  refine lv_if_lt (tgt := 19) hx hb dX6_isWord_1 (by decide) (fun c_1 => ?_) (fun c_1 => ?_)
  · have hf := zx_pos c_1 hf
    refine lv_iconst (v := (0 : Int32)) hx hb dX6_isWord_19 (by decide) ?_
    exact zx_iret hx hb hr hlocks rfl hG hf dX6_isWord_20
  · have hf := zx_neg c_1 hf
    refine lv_iload_n hx hb dX6_isWord_4 rfl (lv_at hl 1 rfl) ?_
    refine lv_aload_n hx hb dX6_isWord_5 rfl (lv_at hl 0 rfl) ?_
    refine zx_getR (d := 10) hx hb hts hiX6 hown hG shX_0 vc_6 1 (by decide) rfl L1 dX6_isWord_6 ?_
    refine zx_getI hx hb hts hiX2 hown hG shX_10 vc_2 1 (by decide) rfl L2 dX6_isWord_9 ?_
    refine lv_icmp_ge (tgt := 19) hx hb dX6_isWord_12 (by decide) (fun c_2 => ?_) (fun c_2 => ?_)
    · have hf := zx_pos c_2 hf
      refine lv_iconst (v := (0 : Int32)) hx hb dX6_isWord_19 (by decide) ?_
      exact zx_iret hx hb hr hlocks rfl hG hf dX6_isWord_20
    · have hf := zx_neg c_2 hf
      refine lv_iconst (v := (1 : Int32)) hx hb dX6_isWord_15 (by decide) ?_
      refine lv_goto (tgt := 20) hx hb dX6_isWord_16 (by decide) ?_
      exact zx_iret hx hb hr hlocks rfl hG hf dX6_isWord_20

set_option maxHeartbeats 4000000 in
set_option maxRecDepth 100000 in
theorem mX6_bad (l : Launch) (D : va_G) (ad : Nat → Nat) (cA : Nat → ClassId) (x1 : Int32) (I : zxI) (r : Int32) (J : zxI) (hf : fX6_bad x1 I = some (r, J)) (sz : Nat) : Met l yX6_bad wsX6_bad { frames := 1, cells := 0, slots := 0, locals := 21 } (va_Pc [.ref (ad 0), .int x1] (zxPre D shX ad cA I sz)) (va_Qi (fun (r2 : Int32) (I2 : zxI) => r2 = r ∧ I2 = J) (zxPost D shX ad cA sz) (zxA shX ad sz)) 0 0 (zxA shX ad sz) := by
  refine zx_start (by decide) rfl (Nat.le_of_ble_eq_true rfl) ?_
  intro p e s m args below meth c ls hx hb hr hts hown hlocks hml hG hl
  have hl : lv_has ls 2 [(0, .ref (ad 0)), (1, .int x1)] := hl
  have hiX2 : ∀ w ∈ wsX20, w ∈ wsX6_bad := fun w h => List.mem_cons_of_mem _ (List.mem_append_right _ h)
  have hiX6 : ∀ w ∈ wsX60, w ∈ wsX6_bad := fun w h => List.mem_cons_of_mem _ (List.mem_append_left _ (List.mem_append_right _ h))
  have L1 := hts (Cond.fieldLink RX6 20 "GalleryBirds" "pit" "LGalleryBirds$Pit;") (List.mem_of_getElem? (i := 1) rfl)
  have L2 := hts (Cond.fieldLink RX6 127 "GalleryBirds$Pit" "bads" "[I") (List.mem_of_getElem? (i := 2) rfl)
  unfold fX6_bad at hf
  refine lv_aload_n hx hb dX6_bad_0 rfl (lv_at hl 0 rfl) ?_
  refine lv_iload_n hx hb dX6_bad_1 rfl (lv_at hl 1 rfl) ?_
  obtain ⟨r_1, I_1, h_1, hf⟩ := zx_b hf
  refine zx_calli (va_runV (As := [.int x1]) (rest := []) ⟨hx, hb, hml, hown, hts⟩ (mX6_isWord l D ad cA x1 I r_1 I_1 h_1 _) (cwV 1 hts gX6_bad_X6_isWord rfl rfl rfl hd_X6_isWord ⟨Nat.le_of_ble_eq_true rfl, Nat.le_of_ble_eq_true rfl⟩) (zx_preV hG shX_0 vc_6) rfl rfl hl.1 rfl (lv_room (Nat.le_of_ble_eq_true rfl)) dX6_bad_2 ⟨Nat.le_refl _, Nat.le_refl _⟩) hG (fun H locs hG => ?_)
  refine lv_if_ne (tgt := 10) hx hb dX6_bad_5 (by decide) (fun c_2 => ?_) (fun c_2 => ?_)
  · have hf := zx_neg c_2 hf
    refine lv_aload_n hx hb dX6_bad_10 rfl (lv_at hl 0 rfl) ?_
    refine zx_getR (d := 10) hx hb hts hiX6 hown hG shX_0 vc_6 1 (by decide) rfl L1 dX6_bad_11 ?_
    refine zx_getR (d := 11) hx hb hts hiX2 hown hG shX_10 vc_2 2 (by decide) rfl L2 dX6_bad_14 ?_
    refine lv_iload_n hx hb dX6_bad_17 rfl (lv_at hl 1 rfl) ?_
    obtain ⟨g_3, hf⟩ := zx_in hf
    refine zx_ald hx hb hG shX_11 g_3 dX6_bad_18 ?_
    exact zx_iret hx hb hr hlocks rfl hG hf dX6_bad_19
  · have hf := zx_pos c_2 hf
    refine lv_iconst (v := (-1 : Int32)) hx hb dX6_bad_8 (by decide) ?_
    exact zx_iret hx hb hr hlocks rfl hG hf dX6_bad_9

set_option maxHeartbeats 4000000 in
set_option maxRecDepth 100000 in
theorem mX6_isFoul (l : Launch) (D : va_G) (ad : Nat → Nat) (cA : Nat → ClassId) (x0 : Int32) (I : zxI) (r : Int32) (J : zxI) (hf : fX6_isFoul x0 I = some (r, J)) (sz : Nat) : Met l yX6_isFoul wsX6_isFoul { frames := 0, cells := 0, slots := 0, locals := 0 } (va_Pc [.int x0] (zxPre D shX ad cA I sz)) (va_Qi (fun (r2 : Int32) (I2 : zxI) => r2 = r ∧ I2 = J) (zxPost D shX ad cA sz) (zxA shX ad sz)) 0 0 (zxA shX ad sz) := by
  refine zx_start (by decide) rfl (Nat.le_of_ble_eq_true rfl) ?_
  intro p e s m args below meth c ls hx hb hr hts hown hlocks hml hG hl
  have hl : lv_has ls 1 [(0, .int x0)] := hl
  unfold fX6_isFoul at hf
  refine lv_iload_n hx hb dX6_isFoul_0 rfl (lv_at hl 0 rfl) ?_
  refine lv_if_lt (tgt := 14) hx hb dX6_isFoul_1 (by decide) (fun c_1 => ?_) (fun c_1 => ?_)
  · have hf := zx_pos c_1 hf
    refine lv_iconst (v := (0 : Int32)) hx hb dX6_isFoul_14 (by decide) ?_
    exact zx_iret hx hb hr hlocks rfl hG hf dX6_isFoul_15
  · have hf := zx_neg c_1 hf
    refine lv_iload_n hx hb dX6_isFoul_4 rfl (lv_at hl 0 rfl) ?_
    refine lv_bipush (v := (40 : Int32)) hx hb dX6_isFoul_5 (by decide) ?_
    refine lv_icmp_gt (tgt := 14) hx hb dX6_isFoul_7 (by decide) (fun c_2 => ?_) (fun c_2 => ?_)
    · have hf := zx_pos c_2 hf
      refine lv_iconst (v := (0 : Int32)) hx hb dX6_isFoul_14 (by decide) ?_
      exact zx_iret hx hb hr hlocks rfl hG hf dX6_isFoul_15
    · have hf := zx_neg c_2 hf
      refine lv_iconst (v := (1 : Int32)) hx hb dX6_isFoul_10 (by decide) ?_
      refine lv_goto (tgt := 15) hx hb dX6_isFoul_11 (by decide) ?_
      exact zx_iret hx hb hr hlocks rfl hG hf dX6_isFoul_15

set_option maxHeartbeats 4000000 in
set_option maxRecDepth 100000 in
theorem mX6_foul (l : Launch) (D : va_G) (ad : Nat → Nat) (cA : Nat → ClassId) (x1 : Int32) (x2 : Int32) (I : zxI) (r : Int32) (J : zxI) (hf : fX6_foul x1 x2 I = some (r, J)) (sz : Nat) : Met l yX6_foul wsX6_foul { frames := 1, cells := 0, slots := 0, locals := 21 } (va_Pc [.ref (ad 0), .int x1, .int x2] (zxPre D shX ad cA I sz)) (va_Qi (fun (r2 : Int32) (I2 : zxI) => r2 = r ∧ I2 = J) (zxPost D shX ad cA sz) (zxA shX ad sz)) 0 0 (zxA shX ad sz) := by
  refine zx_start (by decide) rfl (Nat.le_of_ble_eq_true rfl) ?_
  intro p e s m args below meth c ls hx hb hr hts hown hlocks hml hG hl
  have hl : lv_has ls 4 [(0, .ref (ad 0)), (1, .int x1), (2, .int x2)] := hl
  have hiX0 : ∀ w ∈ wsX00, w ∈ wsX6_foul := fun w h => List.mem_cons_of_mem _ (List.mem_append_left _ (List.mem_append_right _ h))
  have hiX6 : ∀ w ∈ wsX60, w ∈ wsX6_foul := fun w h => List.mem_cons_of_mem _ (List.mem_append_left _ (List.mem_append_left _ (List.mem_append_right _ h)))
  have L1 := hts (Cond.fieldLink RX6 27 "GalleryBirds" "air" "LGalleryBirds$Air;") (List.mem_of_getElem? (i := 1) rfl)
  have L2 := hts (Cond.fieldLink RX6 106 "GalleryBirds$Air" "fouls" "[I") (List.mem_of_getElem? (i := 2) rfl)
  unfold fX6_foul at hf
  refine lv_aload_n hx hb dX6_foul_0 rfl (lv_at hl 0 rfl) ?_
  refine lv_iload_n hx hb dX6_foul_1 rfl (lv_at hl 1 rfl) ?_
  obtain ⟨r_1, I_1, h_1, hf⟩ := zx_b hf
  refine zx_calli (va_runV (As := [.int x1]) (rest := []) ⟨hx, hb, hml, hown, hts⟩ (mX6_isGallery l D ad cA x1 I r_1 I_1 h_1 _) (cwV 1 hts gX6_foul_X6_isGallery rfl rfl rfl hd_X6_isGallery ⟨Nat.le_of_ble_eq_true rfl, Nat.le_of_ble_eq_true rfl⟩) (zx_preV hG shX_0 vc_6) rfl rfl hl.1 rfl (lv_room (Nat.le_of_ble_eq_true rfl)) dX6_foul_2 ⟨Nat.le_refl _, Nat.le_refl _⟩) hG (fun H locs hG => ?_)
  refine lv_if_ne (tgt := 10) hx hb dX6_foul_5 (by decide) (fun c_2 => ?_) (fun c_2 => ?_)
  · have hf := zx_neg c_2 hf
    refine lv_iload_n hx hb dX6_foul_10 rfl (lv_at hl 2 rfl) ?_
    obtain ⟨r_3, I_3, h_3, hf⟩ := zx_b hf
    refine zx_calli (va_runS (As := [.int x2]) (rest := []) ⟨hx, hb, hml, hown, hts⟩ (mX6_isFoul l D ad cA x2 I_1 r_3 I_3 h_3 _) (va_cwS 1 hts gX6_foul_X6_isFoul rfl rfl rfl hd_X6_isFoul ⟨Nat.le_of_ble_eq_true rfl, Nat.le_of_ble_eq_true rfl⟩) (zx_preS hG) rfl rfl hl.1 rfl (lv_room (Nat.le_of_ble_eq_true rfl)) dX6_foul_11 ⟨Nat.le_refl _, Nat.le_refl _⟩) hG (fun H locs hG => ?_)
    refine lv_if_ne (tgt := 20) hx hb dX6_foul_14 (by decide) (fun c_4 => ?_) (fun c_4 => ?_)
    · have hf := zx_neg c_4 hf
      refine lv_aload_n hx hb dX6_foul_20 rfl (lv_at hl 0 rfl) ?_
      refine zx_getR (d := (zaO 0)) hx hb hts hiX6 hown hG shX_0 vc_6 2 (by decide) rfl L1 dX6_foul_21 ?_
      refine zx_getR (d := (zaF 0)) hx hb hts hiX0 hown hG (shX_aO (by decide : 0 < 8)) vc_0 0 (by decide) rfl L2 dX6_foul_24 ?_
      refine lv_iload_n hx hb dX6_foul_27 rfl (lv_at hl 1 rfl) ?_
      obtain ⟨g_5, hf⟩ := zx_in hf
      refine zx_ald hx hb hG (shX_aF (by decide : 0 < 8)) g_5 dX6_foul_28 ?_
      refine lv_istore_n (lv' := [(3, .int (I_3 (zaF 0) x1.toNatClampNeg)), (0, .ref (ad 0)), (1, .int x1), (2, .int x2)]) hx hb dX6_foul_29 rfl hl (by decide) rfl (fun ls hl => ?_)
      refine lv_aload_n hx hb dX6_foul_30 rfl (lv_at hl 1 rfl) ?_
      refine zx_getR (d := (zaO 0)) hx hb hts hiX6 hown hG shX_0 vc_6 2 (by decide) rfl L1 dX6_foul_31 ?_
      refine zx_getR (d := (zaF 0)) hx hb hts hiX0 hown hG (shX_aO (by decide : 0 < 8)) vc_0 0 (by decide) rfl L2 dX6_foul_34 ?_
      refine lv_iload_n hx hb dX6_foul_37 rfl (lv_at hl 2 rfl) ?_
      refine lv_iload_n hx hb dX6_foul_38 rfl (lv_at hl 3 rfl) ?_
      refine zx_ast hx hb hG (shX_aF (by decide : 0 < 8)) g_5 dX6_foul_39 (fun H locs hG => ?_)
      refine lv_iload_n hx hb dX6_foul_40 rfl (lv_at hl 0 rfl) ?_
      exact zx_iret hx hb hr hlocks rfl hG hf dX6_foul_41
    · have hf := zx_pos c_4 hf
      refine lv_bipush (v := (-2 : Int32)) hx hb dX6_foul_17 (by decide) ?_
      exact zx_iret hx hb hr hlocks rfl hG hf dX6_foul_19
  · have hf := zx_pos c_2 hf
    refine lv_iconst (v := (-1 : Int32)) hx hb dX6_foul_8 (by decide) ?_
    exact zx_iret hx hb hr hlocks rfl hG hf dX6_foul_9

set_option maxHeartbeats 4000000 in
set_option maxRecDepth 100000 in
theorem mX6_breed (l : Launch) (D : va_G) (ad : Nat → Nat) (cA : Nat → ClassId) (x1 : Int32) (x2 : Int32) (I : zxI) (r : Int32) (J : zxI) (hf : fX6_breed x1 x2 I = some (r, J)) (sz : Nat) : Met l yX6_breed wsX6_breed { frames := 1, cells := 0, slots := 0, locals := 21 } (va_Pc [.ref (ad 0), .int x1, .int x2] (zxPre D shX ad cA I sz)) (va_Qi (fun (r2 : Int32) (I2 : zxI) => r2 = r ∧ I2 = J) (zxPost D shX ad cA sz) (zxA shX ad sz)) 0 0 (zxA shX ad sz) := by
  refine zx_start (by decide) rfl (Nat.le_of_ble_eq_true rfl) ?_
  intro p e s m args below meth c ls hx hb hr hts hown hlocks hml hG hl
  have hl : lv_has ls 4 [(0, .ref (ad 0)), (1, .int x1), (2, .int x2)] := hl
  have hiX2 : ∀ w ∈ wsX20, w ∈ wsX6_breed := fun w h => List.mem_cons_of_mem _ (List.mem_append_right _ h)
  have hiX6 : ∀ w ∈ wsX60, w ∈ wsX6_breed := fun w h => List.mem_cons_of_mem _ (List.mem_append_left _ (List.mem_append_right _ h))
  have L1 := hts (Cond.fieldLink RX6 20 "GalleryBirds" "pit" "LGalleryBirds$Pit;") (List.mem_of_getElem? (i := 1) rfl)
  have L2 := hts (Cond.fieldLink RX6 109 "GalleryBirds$Pit" "strengths" "[I") (List.mem_of_getElem? (i := 2) rfl)
  unfold fX6_breed at hf
  refine lv_aload_n hx hb dX6_breed_0 rfl (lv_at hl 0 rfl) ?_
  refine lv_iload_n hx hb dX6_breed_1 rfl (lv_at hl 1 rfl) ?_
  obtain ⟨r_1, I_1, h_1, hf⟩ := zx_b hf
  refine zx_calli (va_runV (As := [.int x1]) (rest := []) ⟨hx, hb, hml, hown, hts⟩ (mX6_isGallery l D ad cA x1 I r_1 I_1 h_1 _) (cwV 1 hts gX6_breed_X6_isGallery rfl rfl rfl hd_X6_isGallery ⟨Nat.le_of_ble_eq_true rfl, Nat.le_of_ble_eq_true rfl⟩) (zx_preV hG shX_0 vc_6) rfl rfl hl.1 rfl (lv_room (Nat.le_of_ble_eq_true rfl)) dX6_breed_2 ⟨Nat.le_refl _, Nat.le_refl _⟩) hG (fun H locs hG => ?_)
  refine lv_if_ne (tgt := 10) hx hb dX6_breed_5 (by decide) (fun c_2 => ?_) (fun c_2 => ?_)
  · have hf := zx_neg c_2 hf
    refine lv_iload_n hx hb dX6_breed_10 rfl (lv_at hl 2 rfl) ?_
    refine lv_iconst (v := (1 : Int32)) hx hb dX6_breed_11 (by decide) ?_
    refine lv_icmp_lt (tgt := 21) hx hb dX6_breed_12 (by decide) (fun c_3 => ?_) (fun c_3 => ?_)
    · have hf := zx_pos c_3 hf
      refine lv_bipush (v := (-2 : Int32)) hx hb dX6_breed_21 (by decide) ?_
      exact zx_iret hx hb hr hlocks rfl hG hf dX6_breed_23
    · have hf := zx_neg c_3 hf
      refine lv_iload_n hx hb dX6_breed_15 rfl (lv_at hl 2 rfl) ?_
      refine lv_bipush (v := (9 : Int32)) hx hb dX6_breed_16 (by decide) ?_
      refine lv_icmp_le (tgt := 24) hx hb dX6_breed_18 (by decide) (fun c_4 => ?_) (fun c_4 => ?_)
      · have hf := zx_pos c_4 hf
        refine lv_aload_n hx hb dX6_breed_24 rfl (lv_at hl 0 rfl) ?_
        refine zx_getR (d := 10) hx hb hts hiX6 hown hG shX_0 vc_6 1 (by decide) rfl L1 dX6_breed_25 ?_
        refine zx_getR (d := 13) hx hb hts hiX2 hown hG shX_10 vc_2 4 (by decide) rfl L2 dX6_breed_28 ?_
        refine lv_iload_n hx hb dX6_breed_31 rfl (lv_at hl 1 rfl) ?_
        obtain ⟨g_5, hf⟩ := zx_in hf
        refine zx_ald hx hb hG shX_13 g_5 dX6_breed_32 ?_
        refine lv_istore_n (lv' := [(3, .int (I_1 13 x1.toNatClampNeg)), (0, .ref (ad 0)), (1, .int x1), (2, .int x2)]) hx hb dX6_breed_33 rfl hl (by decide) rfl (fun ls hl => ?_)
        refine lv_aload_n hx hb dX6_breed_34 rfl (lv_at hl 1 rfl) ?_
        refine zx_getR (d := 10) hx hb hts hiX6 hown hG shX_0 vc_6 1 (by decide) rfl L1 dX6_breed_35 ?_
        refine zx_getR (d := 13) hx hb hts hiX2 hown hG shX_10 vc_2 4 (by decide) rfl L2 dX6_breed_38 ?_
        refine lv_iload_n hx hb dX6_breed_41 rfl (lv_at hl 2 rfl) ?_
        refine lv_iload_n hx hb dX6_breed_42 rfl (lv_at hl 3 rfl) ?_
        refine zx_ast hx hb hG shX_13 g_5 dX6_breed_43 (fun H locs hG => ?_)
        refine lv_iload_n hx hb dX6_breed_44 rfl (lv_at hl 0 rfl) ?_
        exact zx_iret hx hb hr hlocks rfl hG hf dX6_breed_45
      · have hf := zx_neg c_4 hf
        refine lv_bipush (v := (-2 : Int32)) hx hb dX6_breed_21 (by decide) ?_
        exact zx_iret hx hb hr hlocks rfl hG hf dX6_breed_23
  · have hf := zx_pos c_2 hf
    refine lv_iconst (v := (-1 : Int32)) hx hb dX6_breed_8 (by decide) ?_
    exact zx_iret hx hb hr hlocks rfl hG hf dX6_breed_9

set_option maxHeartbeats 4000000 in
set_option maxRecDepth 100000 in
theorem mX6_door (l : Launch) (D : va_G) (ad : Nat → Nat) (cA : Nat → ClassId) (x1 : Int32) (x2 : Int32) (I : zxI) (r : Int32) (J : zxI) (hf : fX6_door x1 x2 I = some (r, J)) (sz : Nat) : Met l yX6_door wsX6_door { frames := 1, cells := 0, slots := 0, locals := 21 } (va_Pc [.ref (ad 0), .int x1, .int x2] (zxPre D shX ad cA I sz)) (va_Qi (fun (r2 : Int32) (I2 : zxI) => r2 = r ∧ I2 = J) (zxPost D shX ad cA sz) (zxA shX ad sz)) 0 0 (zxA shX ad sz) := by
  refine zx_start (by decide) rfl (Nat.le_of_ble_eq_true rfl) ?_
  intro p e s m args below meth c ls hx hb hr hts hown hlocks hml hG hl
  have hl : lv_has ls 4 [(0, .ref (ad 0)), (1, .int x1), (2, .int x2)] := hl
  have hiX2 : ∀ w ∈ wsX20, w ∈ wsX6_door := fun w h => List.mem_cons_of_mem _ (List.mem_append_right _ h)
  have hiX6 : ∀ w ∈ wsX60, w ∈ wsX6_door := fun w h => List.mem_cons_of_mem _ (List.mem_append_left _ (List.mem_append_right _ h))
  have L1 := hts (Cond.fieldLink RX6 20 "GalleryBirds" "pit" "LGalleryBirds$Pit;") (List.mem_of_getElem? (i := 1) rfl)
  have L2 := hts (Cond.fieldLink RX6 121 "GalleryBirds$Pit" "doors" "I") (List.mem_of_getElem? (i := 2) rfl)
  unfold fX6_door at hf
  refine lv_aload_n hx hb dX6_door_0 rfl (lv_at hl 0 rfl) ?_
  refine lv_iload_n hx hb dX6_door_1 rfl (lv_at hl 1 rfl) ?_
  obtain ⟨r_1, I_1, h_1, hf⟩ := zx_b hf
  refine zx_calli (va_runV (As := [.int x1]) (rest := []) ⟨hx, hb, hml, hown, hts⟩ (mX6_isDoor l D ad cA x1 I r_1 I_1 h_1 _) (cwV 1 hts gX6_door_X6_isDoor rfl rfl rfl hd_X6_isDoor ⟨Nat.le_of_ble_eq_true rfl, Nat.le_of_ble_eq_true rfl⟩) (zx_preV hG shX_0 vc_6) rfl rfl hl.1 rfl (lv_room (Nat.le_of_ble_eq_true rfl)) dX6_door_2 ⟨Nat.le_refl _, Nat.le_refl _⟩) hG (fun H locs hG => ?_)
  refine lv_if_ne (tgt := 10) hx hb dX6_door_5 (by decide) (fun c_2 => ?_) (fun c_2 => ?_)
  · have hf := zx_neg c_2 hf
    refine lv_iload_n hx hb dX6_door_10 rfl (lv_at hl 2 rfl) ?_
    refine lv_if_eq (tgt := 22) hx hb dX6_door_11 (by decide) (fun c_3 => ?_) (fun c_3 => ?_)
    · have hf := zx_pos c_3 hf
      refine lv_aload_n hx hb dX6_door_22 rfl (lv_at hl 0 rfl) ?_
      refine zx_getR (d := 10) hx hb hts hiX6 hown hG shX_0 vc_6 1 (by decide) rfl L1 dX6_door_23 ?_
      refine zx_getI hx hb hts hiX2 hown hG shX_10 vc_2 5 (by decide) rfl L2 dX6_door_26 ?_
      refine lv_iload_n hx hb dX6_door_29 rfl (lv_at hl 1 rfl) ?_
      refine lv_ishr hx hb dX6_door_30 ?_
      refine lv_iconst (v := (1 : Int32)) hx hb dX6_door_31 (by decide) ?_
      refine lv_iand hx hb dX6_door_32 ?_
      refine lv_istore_n (lv' := [(3, .int (((I_1 10 5) >>> (x1 &&& 31)) &&& (1 : Int32))), (0, .ref (ad 0)), (1, .int x1), (2, .int x2)]) hx hb dX6_door_33 rfl hl (by decide) rfl (fun ls hl => ?_)
      refine lv_aload_n hx hb dX6_door_34 rfl (lv_at hl 1 rfl) ?_
      refine zx_getR (d := 10) hx hb hts hiX6 hown hG shX_0 vc_6 1 (by decide) rfl L1 dX6_door_35 ?_
      refine lv_aload_n hx hb dX6_door_38 rfl (lv_at hl 1 rfl) ?_
      refine zx_getR (d := 10) hx hb hts hiX6 hown hG shX_0 vc_6 1 (by decide) rfl L1 dX6_door_39 ?_
      refine zx_getI hx hb hts hiX2 hown hG shX_10 vc_2 5 (by decide) rfl L2 dX6_door_42 ?_
      refine lv_iconst (v := (1 : Int32)) hx hb dX6_door_45 (by decide) ?_
      refine lv_iload_n hx hb dX6_door_46 rfl (lv_at hl 2 rfl) ?_
      refine lv_ishl hx hb dX6_door_47 ?_
      refine lv_iconst (v := (-1 : Int32)) hx hb dX6_door_48 (by decide) ?_
      refine lv_ixor hx hb dX6_door_49 ?_
      refine lv_iand hx hb dX6_door_50 ?_
      refine lv_iload_n hx hb dX6_door_51 rfl (lv_at hl 3 rfl) ?_
      refine lv_iload_n hx hb dX6_door_52 rfl (lv_at hl 2 rfl) ?_
      refine lv_ishl hx hb dX6_door_53 ?_
      refine lv_ior hx hb dX6_door_54 ?_
      refine zx_putI hx hb hts hiX2 tyX2 tyX2_ok nmX2 hown hG shX_10 vc_2 5 (by decide) rfl L2 rfl (ty := .int) (tyX2_ok 5 (by decide)) rfl rfl dX6_door_55 (fun H locs hG => ?_)
      refine lv_iload_n hx hb dX6_door_58 rfl (lv_at hl 0 rfl) ?_
      exact zx_iret hx hb hr hlocks rfl hG hf dX6_door_59
    · have hf := zx_neg c_3 hf
      refine lv_iload_n hx hb dX6_door_14 rfl (lv_at hl 2 rfl) ?_
      refine lv_iconst (v := (1 : Int32)) hx hb dX6_door_15 (by decide) ?_
      refine lv_icmp_eq (tgt := 22) hx hb dX6_door_16 (by decide) (fun c_4 => ?_) (fun c_4 => ?_)
      · have hf := zx_pos c_4 hf
        refine lv_aload_n hx hb dX6_door_22 rfl (lv_at hl 0 rfl) ?_
        refine zx_getR (d := 10) hx hb hts hiX6 hown hG shX_0 vc_6 1 (by decide) rfl L1 dX6_door_23 ?_
        refine zx_getI hx hb hts hiX2 hown hG shX_10 vc_2 5 (by decide) rfl L2 dX6_door_26 ?_
        refine lv_iload_n hx hb dX6_door_29 rfl (lv_at hl 1 rfl) ?_
        refine lv_ishr hx hb dX6_door_30 ?_
        refine lv_iconst (v := (1 : Int32)) hx hb dX6_door_31 (by decide) ?_
        refine lv_iand hx hb dX6_door_32 ?_
        refine lv_istore_n (lv' := [(3, .int (((I_1 10 5) >>> (x1 &&& 31)) &&& (1 : Int32))), (0, .ref (ad 0)), (1, .int x1), (2, .int x2)]) hx hb dX6_door_33 rfl hl (by decide) rfl (fun ls hl => ?_)
        refine lv_aload_n hx hb dX6_door_34 rfl (lv_at hl 1 rfl) ?_
        refine zx_getR (d := 10) hx hb hts hiX6 hown hG shX_0 vc_6 1 (by decide) rfl L1 dX6_door_35 ?_
        refine lv_aload_n hx hb dX6_door_38 rfl (lv_at hl 1 rfl) ?_
        refine zx_getR (d := 10) hx hb hts hiX6 hown hG shX_0 vc_6 1 (by decide) rfl L1 dX6_door_39 ?_
        refine zx_getI hx hb hts hiX2 hown hG shX_10 vc_2 5 (by decide) rfl L2 dX6_door_42 ?_
        refine lv_iconst (v := (1 : Int32)) hx hb dX6_door_45 (by decide) ?_
        refine lv_iload_n hx hb dX6_door_46 rfl (lv_at hl 2 rfl) ?_
        refine lv_ishl hx hb dX6_door_47 ?_
        refine lv_iconst (v := (-1 : Int32)) hx hb dX6_door_48 (by decide) ?_
        refine lv_ixor hx hb dX6_door_49 ?_
        refine lv_iand hx hb dX6_door_50 ?_
        refine lv_iload_n hx hb dX6_door_51 rfl (lv_at hl 3 rfl) ?_
        refine lv_iload_n hx hb dX6_door_52 rfl (lv_at hl 2 rfl) ?_
        refine lv_ishl hx hb dX6_door_53 ?_
        refine lv_ior hx hb dX6_door_54 ?_
        refine zx_putI hx hb hts hiX2 tyX2 tyX2_ok nmX2 hown hG shX_10 vc_2 5 (by decide) rfl L2 rfl (ty := .int) (tyX2_ok 5 (by decide)) rfl rfl dX6_door_55 (fun H locs hG => ?_)
        refine lv_iload_n hx hb dX6_door_58 rfl (lv_at hl 0 rfl) ?_
        exact zx_iret hx hb hr hlocks rfl hG hf dX6_door_59
      · have hf := zx_neg c_4 hf
        refine lv_bipush (v := (-2 : Int32)) hx hb dX6_door_19 (by decide) ?_
        exact zx_iret hx hb hr hlocks rfl hG hf dX6_door_21
  · have hf := zx_pos c_2 hf
    refine lv_iconst (v := (-1 : Int32)) hx hb dX6_door_8 (by decide) ?_
    exact zx_iret hx hb hr hlocks rfl hG hf dX6_door_9

set_option maxHeartbeats 4000000 in
set_option maxRecDepth 100000 in
theorem mX6_say (l : Launch) (D : va_G) (ad : Nat → Nat) (cA : Nat → ClassId) (x1 : Int32) (x2 : Int32) (I : zxI) (r : Int32) (J : zxI) (hf : fX6_say x1 x2 I = some (r, J)) (sz : Nat) : Met l yX6_say wsX6_say { frames := 5, cells := 0, slots := 0, locals := 111 } (va_Pc [.ref (ad 0), .int x1, .int x2] (zxPre D shX ad cA I sz)) (va_Qi (fun (r2 : Int32) (I2 : zxI) => r2 = r ∧ I2 = J) (zxPost D shX ad cA sz) (zxA shX ad sz)) 0 0 (zxA shX ad sz) := by
  refine zx_start (by decide) rfl (Nat.le_of_ble_eq_true rfl) ?_
  intro p e s m args below meth c ls hx hb hr hts hown hlocks hml hG hl
  have hl : lv_has ls 3 [(0, .ref (ad 0)), (1, .int x1), (2, .int x2)] := hl
  have hiX2 : ∀ w ∈ wsX20, w ∈ wsX6_say := fun w h => List.mem_cons_of_mem _ (List.mem_append_left _ (List.mem_append_right _ h))
  have hiX6 : ∀ w ∈ wsX60, w ∈ wsX6_say := fun w h => List.mem_cons_of_mem _ (List.mem_append_left _ (List.mem_append_left _ (List.mem_append_right _ h)))
  have L1 := hts (Cond.fieldLink RX6 60 "GalleryBirds" "breaths" "I") (List.mem_of_getElem? (i := 1) rfl)
  have L2 := hts (Cond.fieldLink RX6 20 "GalleryBirds" "pit" "LGalleryBirds$Pit;") (List.mem_of_getElem? (i := 2) rfl)
  have L3 := hts (Cond.fieldLink RX6 27 "GalleryBirds" "air" "LGalleryBirds$Air;") (List.mem_of_getElem? (i := 3) rfl)
  have L4 := hts (Cond.fieldLink RX6 121 "GalleryBirds$Pit" "doors" "I") (List.mem_of_getElem? (i := 4) rfl)
  unfold fX6_say at hf
  refine lv_aload_n hx hb dX6_say_0 rfl (lv_at hl 0 rfl) ?_
  refine lv_iload_n hx hb dX6_say_1 rfl (lv_at hl 1 rfl) ?_
  obtain ⟨r_1, I_1, h_1, hf⟩ := zx_b hf
  refine zx_calli (va_runV (As := [.int x1]) (rest := []) ⟨hx, hb, hml, hown, hts⟩ (mX6_isGallery l D ad cA x1 I r_1 I_1 h_1 _) (cwV 1 hts gX6_say_X6_isGallery rfl rfl rfl hd_X6_isGallery ⟨Nat.le_of_ble_eq_true rfl, Nat.le_of_ble_eq_true rfl⟩) (zx_preV hG shX_0 vc_6) rfl rfl hl.1 rfl (lv_room (Nat.le_of_ble_eq_true rfl)) dX6_say_2 ⟨Nat.le_refl _, Nat.le_refl _⟩) hG (fun H locs hG => ?_)
  refine lv_if_eq (tgt := 16) hx hb dX6_say_5 (by decide) (fun c_2 => ?_) (fun c_2 => ?_)
  · have hf := zx_pos c_2 hf
    refine lv_iconst (v := (-1 : Int32)) hx hb dX6_say_16 (by decide) ?_
    exact zx_iret hx hb hr hlocks rfl hG hf dX6_say_17
  · have hf := zx_neg c_2 hf
    refine lv_aload_n hx hb dX6_say_8 rfl (lv_at hl 0 rfl) ?_
    refine lv_iload_n hx hb dX6_say_9 rfl (lv_at hl 2 rfl) ?_
    obtain ⟨r_3, I_3, h_3, hf⟩ := zx_b hf
    refine zx_calli (va_runV (As := [.int x2]) (rest := []) ⟨hx, hb, hml, hown, hts⟩ (mX6_isWord l D ad cA x2 I_1 r_3 I_3 h_3 _) (cwV 1 hts gX6_say_X6_isWord rfl rfl rfl hd_X6_isWord ⟨Nat.le_of_ble_eq_true rfl, Nat.le_of_ble_eq_true rfl⟩) (zx_preV hG shX_0 vc_6) rfl rfl hl.1 rfl (lv_room (Nat.le_of_ble_eq_true rfl)) dX6_say_10 ⟨Nat.le_refl _, Nat.le_refl _⟩) hG (fun H locs hG => ?_)
    refine lv_if_ne (tgt := 18) hx hb dX6_say_13 (by decide) (fun c_4 => ?_) (fun c_4 => ?_)
    · have hf := zx_neg c_4 hf
      refine lv_aload_n hx hb dX6_say_18 rfl (lv_at hl 0 rfl) ?_
      refine lv_dup hx hb dX6_say_19 rfl ?_
      refine zx_getI hx hb hts hiX6 hown hG shX_0 vc_6 8 (by decide) rfl L1 dX6_say_20 ?_
      refine lv_iconst (v := (1 : Int32)) hx hb dX6_say_23 (by decide) ?_
      refine lv_iadd hx hb dX6_say_24 ?_
      refine zx_putI hx hb hts hiX6 tyX6 tyX6_ok nmX6 hown hG shX_0 vc_6 8 (by decide) rfl L1 rfl (ty := .int) (tyX6_ok 8 (by decide)) rfl rfl dX6_say_25 (fun H locs hG => ?_)
      refine lv_aload_n hx hb dX6_say_28 rfl (lv_at hl 0 rfl) ?_
      refine zx_getR (d := 10) hx hb hts hiX6 hown hG shX_0 vc_6 1 (by decide) rfl L2 dX6_say_29 ?_
      refine lv_aload_n hx hb dX6_say_32 rfl (lv_at hl 0 rfl) ?_
      refine zx_getR (d := (zaO 0)) hx hb hts hiX6 hown hG shX_0 vc_6 2 (by decide) rfl L3 dX6_say_33 ?_
      refine lv_aload_n hx hb dX6_say_36 rfl (lv_at hl 0 rfl) ?_
      refine zx_getR (d := 10) hx hb hts hiX6 hown hG shX_0 vc_6 1 (by decide) rfl L2 dX6_say_37 ?_
      refine zx_getI hx hb hts hiX2 hown hG shX_10 vc_2 5 (by decide) rfl L4 dX6_say_40 ?_
      refine lv_iload_n hx hb dX6_say_43 rfl (lv_at hl 1 rfl) ?_
      refine lv_iload_n hx hb dX6_say_44 rfl (lv_at hl 2 rfl) ?_
      obtain ⟨r_5, I_5, h_5, hf⟩ := zx_b hf
      refine zx_calli (va_runV (As := [.ref (ad (zaO 0)), .int ((zxU I_3 0 8 ((I_3 0 8) + (1 : Int32))) 10 5), .int x1, .int x2]) (rest := []) ⟨hx, hb, hml, hown, hts⟩ (mX2_breathe l D ad cA 0 (by decide : 0 < 8) ((zxU I_3 0 8 ((I_3 0 8) + (1 : Int32))) 10 5) x1 x2 (zxU I_3 0 8 ((I_3 0 8) + (1 : Int32))) r_5 I_5 h_5 _) (cwV 4 hts gX6_say_X2_breathe rfl rfl rfl hd_X2_breathe ⟨Nat.le_of_ble_eq_true rfl, Nat.le_of_ble_eq_true rfl⟩) (zx_preV hG shX_10 vc_2) rfl rfl hl.1 rfl (lv_room (Nat.le_of_ble_eq_true rfl)) dX6_say_45 ⟨Nat.le_refl _, Nat.le_refl _⟩) hG (fun H locs hG => ?_)
      exact zx_iret hx hb hr hlocks rfl hG hf dX6_say_48
    · have hf := zx_pos c_4 hf
      refine lv_iconst (v := (-1 : Int32)) hx hb dX6_say_16 (by decide) ?_
      exact zx_iret hx hb hr hlocks rfl hG hf dX6_say_17

set_option maxHeartbeats 4000000 in
set_option maxRecDepth 100000 in
theorem mX6_hasMine (l : Launch) (D : va_G) (ad : Nat → Nat) (cA : Nat → ClassId) (I : zxI) (r : Int32) (J : zxI) (hf : fX6_hasMine I = some (r, J)) (sz : Nat) : Met l yX6_hasMine wsX6_hasMine { frames := 0, cells := 0, slots := 0, locals := 0 } (va_Pc [.ref (ad 0)] (zxPre D shX ad cA I sz)) (va_Qi (fun (r2 : Int32) (I2 : zxI) => r2 = r ∧ I2 = J) (zxPost D shX ad cA sz) (zxA shX ad sz)) 0 0 (zxA shX ad sz) := by
  refine zx_start (by decide) rfl (Nat.le_of_ble_eq_true rfl) ?_
  intro p e s m args below meth c ls hx hb hr hts hown hlocks hml hG hl
  have hl : lv_has ls 1 [(0, .ref (ad 0))] := hl
  have hiX2 : ∀ w ∈ wsX20, w ∈ wsX6_hasMine := fun w h => List.mem_cons_of_mem _ (List.mem_append_right _ h)
  have hiX6 : ∀ w ∈ wsX60, w ∈ wsX6_hasMine := fun w h => List.mem_cons_of_mem _ (List.mem_append_left _ (List.mem_append_right _ h))
  have L1 := hts (Cond.fieldLink RX6 20 "GalleryBirds" "pit" "LGalleryBirds$Pit;") (List.mem_of_getElem? (i := 1) rfl)
  have L2 := hts (Cond.fieldLink RX6 97 "GalleryBirds$Pit" "galleries" "I") (List.mem_of_getElem? (i := 2) rfl)
  unfold fX6_hasMine at hf
  refine lv_aload_n hx hb dX6_hasMine_0 rfl (lv_at hl 0 rfl) ?_
  refine zx_getR (d := 10) hx hb hts hiX6 hown hG shX_0 vc_6 1 (by decide) rfl L1 dX6_hasMine_1 ?_
  refine zx_getI hx hb hts hiX2 hown hG shX_10 vc_2 0 (by decide) rfl L2 dX6_hasMine_4 ?_
  refine lv_if_le (tgt := 14) hx hb dX6_hasMine_7 (by decide) (fun c_1 => ?_) (fun c_1 => ?_)
  · have hf := zx_pos c_1 hf
    refine lv_iconst (v := (0 : Int32)) hx hb dX6_hasMine_14 (by decide) ?_
    exact zx_iret hx hb hr hlocks rfl hG hf dX6_hasMine_15
  · have hf := zx_neg c_1 hf
    refine lv_iconst (v := (1 : Int32)) hx hb dX6_hasMine_10 (by decide) ?_
    refine lv_goto (tgt := 15) hx hb dX6_hasMine_11 (by decide) ?_
    exact zx_iret hx hb hr hlocks rfl hG hf dX6_hasMine_15

set_option maxHeartbeats 4000000 in
set_option maxRecDepth 100000 in
theorem mX6_hush (l : Launch) (D : va_G) (ad : Nat → Nat) (cA : Nat → ClassId) (x1 : Int32) (I : zxI) (r : Int32) (J : zxI) (hf : fX6_hush x1 I = some (r, J)) (sz : Nat) : Met l yX6_hush wsX6_hush { frames := 4, cells := 0, slots := 0, locals := 87 } (va_Pc [.ref (ad 0), .int x1] (zxPre D shX ad cA I sz)) (va_Qi (fun (r2 : Int32) (I2 : zxI) => r2 = r ∧ I2 = J) (zxPost D shX ad cA sz) (zxA shX ad sz)) 0 0 (zxA shX ad sz) := by
  refine zx_start (by decide) rfl (Nat.le_of_ble_eq_true rfl) ?_
  intro p e s m args below meth c ls hx hb hr hts hown hlocks hml hG hl
  have hl : lv_has ls 4 [(0, .ref (ad 0)), (1, .int x1)] := hl
  have hiX2 : ∀ w ∈ wsX20, w ∈ wsX6_hush := fun w h => List.mem_cons_of_mem _ (List.mem_append_left _ (List.mem_append_right _ h))
  have hiX6 : ∀ w ∈ wsX60, w ∈ wsX6_hush := fun w h => List.mem_cons_of_mem _ (List.mem_append_left _ (List.mem_append_left _ (List.mem_append_right _ h)))
  have L1 := hts (Cond.fieldLink RX6 60 "GalleryBirds" "breaths" "I") (List.mem_of_getElem? (i := 4) rfl)
  have L2 := hts (Cond.fieldLink RX6 20 "GalleryBirds" "pit" "LGalleryBirds$Pit;") (List.mem_of_getElem? (i := 1) rfl)
  have L3 := hts (Cond.fieldLink RX6 27 "GalleryBirds" "air" "LGalleryBirds$Air;") (List.mem_of_getElem? (i := 2) rfl)
  have L4 := hts (Cond.fieldLink RX6 121 "GalleryBirds$Pit" "doors" "I") (List.mem_of_getElem? (i := 3) rfl)
  unfold fX6_hush at hf
  refine lv_iload_n hx hb dX6_hush_0 rfl (lv_at hl 1 rfl) ?_
  refine lv_iconst (v := (1 : Int32)) hx hb dX6_hush_1 (by decide) ?_
  refine lv_icmp_lt (tgt := 11) hx hb dX6_hush_2 (by decide) (fun c_1 => ?_) (fun c_1 => ?_)
  · have hf := zx_pos c_1 hf
    refine lv_bipush (v := (-2 : Int32)) hx hb dX6_hush_11 (by decide) ?_
    exact zx_iret hx hb hr hlocks rfl hG hf dX6_hush_13
  · have hf := zx_neg c_1 hf
    refine lv_iload_n hx hb dX6_hush_5 rfl (lv_at hl 1 rfl) ?_
    refine lv_bipush (v := (30 : Int32)) hx hb dX6_hush_6 (by decide) ?_
    refine lv_icmp_le (tgt := 14) hx hb dX6_hush_8 (by decide) (fun c_2 => ?_) (fun c_2 => ?_)
    · have hf := zx_pos c_2 hf
      refine lv_aload_n hx hb dX6_hush_14 rfl (lv_at hl 0 rfl) ?_
      obtain ⟨r_3, I_3, h_3, hf⟩ := zx_b hf
      refine zx_calli (va_runV (As := []) (rest := []) ⟨hx, hb, hml, hown, hts⟩ (mX6_hasMine l D ad cA I r_3 I_3 h_3 _) (cwV 0 hts gX6_hush_X6_hasMine rfl rfl rfl hd_X6_hasMine ⟨Nat.le_of_ble_eq_true rfl, Nat.le_of_ble_eq_true rfl⟩) (zx_preV hG shX_0 vc_6) rfl rfl hl.1 rfl (lv_room (Nat.le_of_ble_eq_true rfl)) dX6_hush_15 ⟨Nat.le_refl _, Nat.le_refl _⟩) hG (fun H locs hG => ?_)
      refine lv_if_ne (tgt := 24) hx hb dX6_hush_18 (by decide) (fun c_4 => ?_) (fun c_4 => ?_)
      · have hf := zx_neg c_4 hf
        refine lv_iconst (v := (0 : Int32)) hx hb dX6_hush_24 (by decide) ?_
        refine lv_istore_n (lv' := [(2, .int (0 : Int32)), (0, .ref (ad 0)), (1, .int x1)]) hx hb dX6_hush_25 rfl hl (by decide) rfl (fun ls hl => ?_)
        refine lv_iconst (v := (0 : Int32)) hx hb dX6_hush_26 (by decide) ?_
        refine lv_istore_n (lv' := [(3, .int (0 : Int32)), (2, .int (0 : Int32)), (0, .ref (ad 0)), (1, .int x1)]) hx hb dX6_hush_27 rfl hl (by decide) rfl (fun ls hl => ?_)
        have loop28 : ∀ (n : Nat) (v1 : Int32) (v2 : Int32) (v3 : Int32) (I : zxI) (H : Heap) (locs : List Loc) (ls : Array Slot), fX6_hush_L28 n v1 v2 v3 I = some (r, J) → zxAt D shX ad cA I s sz H locs → lv_has ls 4 [(0, .ref (ad 0)), (1, .int v1), (2, .int v2), (3, .int v3)] → W p l e (headSpec wsX6_hush { frames := 4, cells := 0, slots := 0, locals := 87 }).room s m args below meth c H locs 0 0 (MQ below (va_Qi (fun (r2 : Int32) (I2 : zxI) => r2 = r ∧ I2 = J) (zxPost D shX ad cA sz) (zxA shX ad sz)) args s 0 0 (zxA shX ad sz)) (F0 m 28 ls []) := by
          intro n
          induction n with
          | zero =>
            intro v1 v2 v3 I H locs ls hf hG hl
            rw [fX6_hush_L28] at hf
            cases hf
          | succ n28 ih28 =>
            intro v1 v2 v3 I H locs ls hf hG hl
            rw [fX6_hush_L28] at hf
            refine lv_iload_n hx hb dX6_hush_28 rfl (lv_at hl 3 rfl) ?_
            refine lv_iload_n hx hb dX6_hush_29 rfl (lv_at hl 1 rfl) ?_
            refine lv_icmp_ge (tgt := 60) hx hb dX6_hush_30 (by decide) (fun c_5 => ?_) (fun c_5 => ?_)
            · have hf := zx_pos c_5 hf
              refine lv_aload_n hx hb dX6_hush_60 rfl (lv_at hl 0 rfl) ?_
              refine lv_dup hx hb dX6_hush_61 rfl ?_
              refine zx_getI hx hb hts hiX6 hown hG shX_0 vc_6 8 (by decide) rfl L1 dX6_hush_62 ?_
              refine lv_iload_n hx hb dX6_hush_65 rfl (lv_at hl 1 rfl) ?_
              refine lv_iadd hx hb dX6_hush_66 ?_
              refine zx_putI hx hb hts hiX6 tyX6 tyX6_ok nmX6 hown hG shX_0 vc_6 8 (by decide) rfl L1 rfl (ty := .int) (tyX6_ok 8 (by decide)) rfl rfl dX6_hush_67 (fun H locs hG => ?_)
              refine lv_iload_n hx hb dX6_hush_70 rfl (lv_at hl 2 rfl) ?_
              exact zx_iret hx hb hr hlocks rfl hG hf dX6_hush_71
            · have hf := zx_neg c_5 hf
              refine lv_iload_n hx hb dX6_hush_33 rfl (lv_at hl 2 rfl) ?_
              refine lv_aload_n hx hb dX6_hush_34 rfl (lv_at hl 0 rfl) ?_
              refine zx_getR (d := 10) hx hb hts hiX6 hown hG shX_0 vc_6 1 (by decide) rfl L2 dX6_hush_35 ?_
              refine lv_aload_n hx hb dX6_hush_38 rfl (lv_at hl 0 rfl) ?_
              refine zx_getR (d := (zaO 0)) hx hb hts hiX6 hown hG shX_0 vc_6 2 (by decide) rfl L3 dX6_hush_39 ?_
              refine lv_aload_n hx hb dX6_hush_42 rfl (lv_at hl 0 rfl) ?_
              refine zx_getR (d := 10) hx hb hts hiX6 hown hG shX_0 vc_6 1 (by decide) rfl L2 dX6_hush_43 ?_
              refine zx_getI hx hb hts hiX2 hown hG shX_10 vc_2 5 (by decide) rfl L4 dX6_hush_46 ?_
              obtain ⟨r_6, I_6, h_6, hf⟩ := zx_b hf
              refine zx_calli (va_runV (As := [.ref (ad (zaO 0)), .int (I 10 5)]) (rest := [.int v2]) ⟨hx, hb, hml, hown, hts⟩ (mX2_breatheHushed l D ad cA 0 (by decide : 0 < 8) (I 10 5) I r_6 I_6 h_6 _) (cwV 2 hts gX6_hush_X2_breatheHushed rfl rfl rfl hd_X2_breatheHushed ⟨Nat.le_of_ble_eq_true rfl, Nat.le_of_ble_eq_true rfl⟩) (zx_preV hG shX_10 vc_2) rfl rfl hl.1 rfl (lv_room (Nat.le_of_ble_eq_true rfl)) dX6_hush_49 ⟨Nat.le_refl _, Nat.le_refl _⟩) hG (fun H locs hG => ?_)
              refine lv_ior hx hb dX6_hush_52 ?_
              refine lv_istore_n (lv' := [(2, .int (v2 ||| r_6)), (0, .ref (ad 0)), (1, .int v1), (3, .int v3)]) hx hb dX6_hush_53 rfl hl (by decide) rfl (fun ls hl => ?_)
              refine lv_iinc (v := (v3 + (1 : Int32))) (lv' := [(3, .int (v3 + (1 : Int32))), (2, .int (v2 ||| r_6)), (0, .ref (ad 0)), (1, .int v1)]) hx hb dX6_hush_54 hl (k := 3) rfl (congrArg (HAdd.hAdd v3) (by decide)) (by decide) rfl (fun ls hl => ?_)
              refine lv_goto (tgt := 28) hx hb dX6_hush_57 (by decide) ?_
              exact ih28 v1 (v2 ||| r_6) (v3 + (1 : Int32)) I_6 _ _ ls hf hG (lv_sub hl [2, 3, 1, 0] rfl)
        exact loop28 _ x1 (0 : Int32) (0 : Int32) I_3 _ _ ls hf hG (lv_sub hl [2, 3, 1, 0] rfl)
      · have hf := zx_pos c_4 hf
        refine lv_bipush (v := (-3 : Int32)) hx hb dX6_hush_21 (by decide) ?_
        exact zx_iret hx hb hr hlocks rfl hG hf dX6_hush_23
    · have hf := zx_neg c_2 hf
      refine lv_bipush (v := (-2 : Int32)) hx hb dX6_hush_11 (by decide) ?_
      exact zx_iret hx hb hr hlocks rfl hG hf dX6_hush_13

set_option maxHeartbeats 4000000 in
set_option maxRecDepth 100000 in
theorem mJ6_bitCount_0f7a4 (l : Launch) (D : va_G) (ad : Nat → Nat) (cA : Nat → ClassId) (x0 : Int32) (I : zxI) (r : Int32) (J : zxI) (hf : fJ6_bitCount_0f7a4 x0 I = some (r, J)) (sz : Nat) : Met l yJ6_bitCount_0f7a4 wsJ6_bitCount_0f7a4 { frames := 0, cells := 0, slots := 0, locals := 0 } (va_Pc [.int x0] (zxPre D shX ad cA I sz)) (va_Qi (fun (r2 : Int32) (I2 : zxI) => r2 = r ∧ I2 = J) (zxPost D shX ad cA sz) (zxA shX ad sz)) 0 0 (zxA shX ad sz) := by
  refine zx_start (by decide) rfl (Nat.le_of_ble_eq_true rfl) ?_
  intro p e s m args below meth c ls hx hb hr hts hown hlocks hml hG hl
  have hl : lv_has ls 1 [(0, .int x0)] := hl
  have L1 := hts (Cond.constant RJ6 265 (1431655765)) (List.mem_of_getElem? (i := 1) rfl)
  have L2 := hts (Cond.constant RJ6 266 (858993459)) (List.mem_of_getElem? (i := 2) rfl)
  have L3 := hts (Cond.constant RJ6 267 (252645135)) (List.mem_of_getElem? (i := 3) rfl)
  unfold fJ6_bitCount_0f7a4 at hf
  refine lv_iload_n hx hb dJ6_bitCount_0f7a4_0 rfl (lv_at hl 0 rfl) ?_
  refine lv_iload_n hx hb dJ6_bitCount_0f7a4_1 rfl (lv_at hl 0 rfl) ?_
  refine lv_iconst (v := (1 : Int32)) hx hb dJ6_bitCount_0f7a4_2 (by decide) ?_
  refine lv_iushr (v := ((x0.toUInt32 >>> ((1 : Int32).toUInt32 &&& Int32.toUInt32 31)).toInt32)) hx hb dJ6_bitCount_0f7a4_3 rfl ?_
  refine lv_ldcw (v := (1431655765 : Int32)) hx hb hown L1 dJ6_bitCount_0f7a4_4 ?_
  refine lv_iand hx hb dJ6_bitCount_0f7a4_7 ?_
  refine lv_isub hx hb dJ6_bitCount_0f7a4_8 ?_
  refine lv_topi (fun z_1 ez_1 => ?_)
  have hf := zx_l ez_1 hf
  refine lv_istore_n (lv' := [(0, .int z_1)]) hx hb dJ6_bitCount_0f7a4_9 rfl hl (by decide) rfl (fun ls hl => ?_)
  refine lv_iload_n hx hb dJ6_bitCount_0f7a4_10 rfl (lv_at hl 0 rfl) ?_
  refine lv_ldcw (v := (858993459 : Int32)) hx hb hown L2 dJ6_bitCount_0f7a4_11 ?_
  refine lv_iand hx hb dJ6_bitCount_0f7a4_14 ?_
  refine lv_iload_n hx hb dJ6_bitCount_0f7a4_15 rfl (lv_at hl 0 rfl) ?_
  refine lv_iconst (v := (2 : Int32)) hx hb dJ6_bitCount_0f7a4_16 (by decide) ?_
  refine lv_iushr (v := ((z_1.toUInt32 >>> ((2 : Int32).toUInt32 &&& Int32.toUInt32 31)).toInt32)) hx hb dJ6_bitCount_0f7a4_17 rfl ?_
  refine lv_ldcw (v := (858993459 : Int32)) hx hb hown L2 dJ6_bitCount_0f7a4_18 ?_
  refine lv_iand hx hb dJ6_bitCount_0f7a4_21 ?_
  refine lv_iadd hx hb dJ6_bitCount_0f7a4_22 ?_
  refine lv_topi (fun z_2 ez_2 => ?_)
  have hf := zx_l ez_2 hf
  refine lv_istore_n (lv' := [(0, .int z_2)]) hx hb dJ6_bitCount_0f7a4_23 rfl hl (by decide) rfl (fun ls hl => ?_)
  refine lv_iload_n hx hb dJ6_bitCount_0f7a4_24 rfl (lv_at hl 0 rfl) ?_
  refine lv_iload_n hx hb dJ6_bitCount_0f7a4_25 rfl (lv_at hl 0 rfl) ?_
  refine lv_iconst (v := (4 : Int32)) hx hb dJ6_bitCount_0f7a4_26 (by decide) ?_
  refine lv_iushr (v := ((z_2.toUInt32 >>> ((4 : Int32).toUInt32 &&& Int32.toUInt32 31)).toInt32)) hx hb dJ6_bitCount_0f7a4_27 rfl ?_
  refine lv_iadd hx hb dJ6_bitCount_0f7a4_28 ?_
  refine lv_ldcw (v := (252645135 : Int32)) hx hb hown L3 dJ6_bitCount_0f7a4_29 ?_
  refine lv_iand hx hb dJ6_bitCount_0f7a4_32 ?_
  refine lv_topi (fun z_3 ez_3 => ?_)
  have hf := zx_l ez_3 hf
  refine lv_istore_n (lv' := [(0, .int z_3)]) hx hb dJ6_bitCount_0f7a4_33 rfl hl (by decide) rfl (fun ls hl => ?_)
  refine lv_iload_n hx hb dJ6_bitCount_0f7a4_34 rfl (lv_at hl 0 rfl) ?_
  refine lv_iload_n hx hb dJ6_bitCount_0f7a4_35 rfl (lv_at hl 0 rfl) ?_
  refine lv_bipush (v := (8 : Int32)) hx hb dJ6_bitCount_0f7a4_36 (by decide) ?_
  refine lv_iushr (v := ((z_3.toUInt32 >>> ((8 : Int32).toUInt32 &&& Int32.toUInt32 31)).toInt32)) hx hb dJ6_bitCount_0f7a4_38 rfl ?_
  refine lv_iadd hx hb dJ6_bitCount_0f7a4_39 ?_
  refine lv_topi (fun z_4 ez_4 => ?_)
  have hf := zx_l ez_4 hf
  refine lv_istore_n (lv' := [(0, .int z_4)]) hx hb dJ6_bitCount_0f7a4_40 rfl hl (by decide) rfl (fun ls hl => ?_)
  refine lv_iload_n hx hb dJ6_bitCount_0f7a4_41 rfl (lv_at hl 0 rfl) ?_
  refine lv_iload_n hx hb dJ6_bitCount_0f7a4_42 rfl (lv_at hl 0 rfl) ?_
  refine lv_bipush (v := (16 : Int32)) hx hb dJ6_bitCount_0f7a4_43 (by decide) ?_
  refine lv_iushr (v := ((z_4.toUInt32 >>> ((16 : Int32).toUInt32 &&& Int32.toUInt32 31)).toInt32)) hx hb dJ6_bitCount_0f7a4_45 rfl ?_
  refine lv_iadd hx hb dJ6_bitCount_0f7a4_46 ?_
  refine lv_topi (fun z_5 ez_5 => ?_)
  have hf := zx_l ez_5 hf
  refine lv_istore_n (lv' := [(0, .int z_5)]) hx hb dJ6_bitCount_0f7a4_47 rfl hl (by decide) rfl (fun ls hl => ?_)
  refine lv_iload_n hx hb dJ6_bitCount_0f7a4_48 rfl (lv_at hl 0 rfl) ?_
  refine lv_bipush (v := (63 : Int32)) hx hb dJ6_bitCount_0f7a4_49 (by decide) ?_
  refine lv_iand hx hb dJ6_bitCount_0f7a4_51 ?_
  exact zx_iret hx hb hr hlocks rfl hG hf dJ6_bitCount_0f7a4_52

set_option maxHeartbeats 4000000 in
set_option maxRecDepth 100000 in
theorem mX6_blow (l : Launch) (D : va_G) (ad : Nat → Nat) (cA : Nat → ClassId) (x1 : Int32) (I : zxI) (r : Int32) (J : zxI) (hf : fX6_blow x1 I = some (r, J)) (sz : Nat) : Met l yX6_blow wsX6_blow { frames := 2, cells := 0, slots := 0, locals := 42 } (va_Pc [.ref (ad 0), .int x1] (zxPre D shX ad cA I sz)) (va_Qi (fun (r2 : Int32) (I2 : zxI) => r2 = r ∧ I2 = J) (zxPost D shX ad cA sz) (zxA shX ad sz)) 0 0 (zxA shX ad sz) := by
  refine zx_start (by decide) rfl (Nat.le_of_ble_eq_true rfl) ?_
  intro p e s m args below meth c ls hx hb hr hts hown hlocks hml hG hl
  have hl : lv_has ls 2 [(0, .ref (ad 0)), (1, .int x1)] := hl
  have hiX0 : ∀ w ∈ wsX00, w ∈ wsX6_blow := fun w h => List.mem_cons_of_mem _ (List.mem_append_left _ (List.mem_append_right _ h))
  have hiX6 : ∀ w ∈ wsX60, w ∈ wsX6_blow := fun w h => List.mem_cons_of_mem _ (List.mem_append_left _ (List.mem_append_left _ (List.mem_append_right _ h)))
  have L1 := hts (Cond.fieldLink RX6 27 "GalleryBirds" "air" "LGalleryBirds$Air;") (List.mem_of_getElem? (i := 1) rfl)
  have L2 := hts (Cond.fieldLink RX6 106 "GalleryBirds$Air" "fouls" "[I") (List.mem_of_getElem? (i := 2) rfl)
  have L3 := hts (Cond.fieldLink RX6 20 "GalleryBirds" "pit" "LGalleryBirds$Pit;") (List.mem_of_getElem? (i := 3) rfl)
  have L4 := hts (Cond.fieldLink RX6 115 "GalleryBirds$Air" "down" "I") (List.mem_of_getElem? (i := 4) rfl)
  unfold fX6_blow at hf
  refine lv_aload_n hx hb dX6_blow_0 rfl (lv_at hl 0 rfl) ?_
  refine lv_iload_n hx hb dX6_blow_1 rfl (lv_at hl 1 rfl) ?_
  obtain ⟨r_1, I_1, h_1, hf⟩ := zx_b hf
  refine zx_calli (va_runV (As := [.int x1]) (rest := []) ⟨hx, hb, hml, hown, hts⟩ (mX6_isGallery l D ad cA x1 I r_1 I_1 h_1 _) (cwV 1 hts gX6_blow_X6_isGallery rfl rfl rfl hd_X6_isGallery ⟨Nat.le_of_ble_eq_true rfl, Nat.le_of_ble_eq_true rfl⟩) (zx_preV hG shX_0 vc_6) rfl rfl hl.1 rfl (lv_room (Nat.le_of_ble_eq_true rfl)) dX6_blow_2 ⟨Nat.le_refl _, Nat.le_refl _⟩) hG (fun H locs hG => ?_)
  refine lv_if_ne (tgt := 10) hx hb dX6_blow_5 (by decide) (fun c_2 => ?_) (fun c_2 => ?_)
  · have hf := zx_neg c_2 hf
    refine lv_aload_n hx hb dX6_blow_10 rfl (lv_at hl 0 rfl) ?_
    refine zx_getR (d := (zaO 0)) hx hb hts hiX6 hown hG shX_0 vc_6 2 (by decide) rfl L1 dX6_blow_11 ?_
    refine lv_iload_n hx hb dX6_blow_14 rfl (lv_at hl 1 rfl) ?_
    obtain ⟨r_3, I_3, h_3, hf⟩ := zx_b hf
    refine zx_calli (va_runV (As := [.int x1]) (rest := []) ⟨hx, hb, hml, hown, hts⟩ (mX0_isDown l D ad cA 0 (by decide : 0 < 8) x1 I_1 r_3 I_3 h_3 _) (cwV 1 hts gX6_blow_X0_isDown rfl rfl rfl hd_X0_isDown ⟨Nat.le_of_ble_eq_true rfl, Nat.le_of_ble_eq_true rfl⟩) (zx_preV hG (shX_aO (by decide : 0 < 8)) vc_0) rfl rfl hl.1 rfl (lv_room (Nat.le_of_ble_eq_true rfl)) dX6_blow_15 ⟨Nat.le_refl _, Nat.le_refl _⟩) hG (fun H locs hG => ?_)
    refine lv_if_eq (tgt := 41) hx hb dX6_blow_18 (by decide) (fun c_4 => ?_) (fun c_4 => ?_)
    · have hf := zx_pos c_4 hf
      refine lv_bipush (v := (-3 : Int32)) hx hb dX6_blow_41 (by decide) ?_
      exact zx_iret hx hb hr hlocks rfl hG hf dX6_blow_43
    · have hf := zx_neg c_4 hf
      refine lv_aload_n hx hb dX6_blow_21 rfl (lv_at hl 0 rfl) ?_
      refine zx_getR (d := (zaO 0)) hx hb hts hiX6 hown hG shX_0 vc_6 2 (by decide) rfl L1 dX6_blow_22 ?_
      refine zx_getR (d := (zaF 0)) hx hb hts hiX0 hown hG (shX_aO (by decide : 0 < 8)) vc_0 0 (by decide) rfl L2 dX6_blow_25 ?_
      refine lv_iload_n hx hb dX6_blow_28 rfl (lv_at hl 1 rfl) ?_
      obtain ⟨g_5, hf⟩ := zx_in hf
      refine zx_ald hx hb hG (shX_aF (by decide : 0 < 8)) g_5 dX6_blow_29 ?_
      refine lv_aload_n hx hb dX6_blow_30 rfl (lv_at hl 0 rfl) ?_
      refine zx_getR (d := 10) hx hb hts hiX6 hown hG shX_0 vc_6 1 (by decide) rfl L3 dX6_blow_31 ?_
      refine lv_iload_n hx hb dX6_blow_34 rfl (lv_at hl 1 rfl) ?_
      obtain ⟨r_6, I_6, h_6, hf⟩ := zx_b hf
      refine zx_calli (va_runV (As := [.int x1]) (rest := [.int (I_3 (zaF 0) x1.toNatClampNeg)]) ⟨hx, hb, hml, hown, hts⟩ (mX2_bears l D ad cA x1 I_3 r_6 I_6 h_6 _) (cwV 1 hts gX6_blow_X2_bears rfl rfl rfl hd_X2_bears ⟨Nat.le_of_ble_eq_true rfl, Nat.le_of_ble_eq_true rfl⟩) (zx_preV hG shX_10 vc_2) rfl rfl hl.1 rfl (lv_room (Nat.le_of_ble_eq_true rfl)) dX6_blow_35 ⟨Nat.le_refl _, Nat.le_refl _⟩) hG (fun H locs hG => ?_)
      refine lv_icmp_le (tgt := 44) hx hb dX6_blow_38 (by decide) (fun c_7 => ?_) (fun c_7 => ?_)
      · have hf := zx_pos c_7 hf
        refine lv_aload_n hx hb dX6_blow_44 rfl (lv_at hl 0 rfl) ?_
        refine zx_getR (d := (zaO 0)) hx hb hts hiX6 hown hG shX_0 vc_6 2 (by decide) rfl L1 dX6_blow_45 ?_
        refine lv_dup hx hb dX6_blow_48 rfl ?_
        refine zx_getI hx hb hts hiX0 hown hG (shX_aO (by decide : 0 < 8)) vc_0 1 (by decide) rfl L4 dX6_blow_49 ?_
        refine lv_iconst (v := (1 : Int32)) hx hb dX6_blow_52 (by decide) ?_
        refine lv_iload_n hx hb dX6_blow_53 rfl (lv_at hl 1 rfl) ?_
        refine lv_ishl hx hb dX6_blow_54 ?_
        refine lv_iconst (v := (-1 : Int32)) hx hb dX6_blow_55 (by decide) ?_
        refine lv_ixor hx hb dX6_blow_56 ?_
        refine lv_iand hx hb dX6_blow_57 ?_
        refine zx_putI hx hb hts hiX0 tyX0 tyX0_ok nmX0 hown hG (shX_aO (by decide : 0 < 8)) vc_0 1 (by decide) rfl L4 rfl (ty := .int) (tyX0_ok 1 (by decide)) rfl rfl dX6_blow_58 (fun H locs hG => ?_)
        refine lv_aload_n hx hb dX6_blow_61 rfl (lv_at hl 0 rfl) ?_
        refine zx_getR (d := (zaO 0)) hx hb hts hiX6 hown hG shX_0 vc_6 2 (by decide) rfl L1 dX6_blow_62 ?_
        refine zx_getI hx hb hts hiX0 hown hG (shX_aO (by decide : 0 < 8)) vc_0 1 (by decide) rfl L4 dX6_blow_65 ?_
        obtain ⟨r_8, I_8, h_8, hf⟩ := zx_b hf
        refine zx_calli (va_runS (As := [.int ((zxU I_6 (zaO 0) 1 ((I_6 (zaO 0) 1) &&& (((1 : Int32) <<< (x1 &&& 31)) ^^^ (-1 : Int32)))) (zaO 0) 1)]) (rest := []) ⟨hx, hb, hml, hown, hts⟩ (mJ6_bitCount_0f7a4 l D ad cA ((zxU I_6 (zaO 0) 1 ((I_6 (zaO 0) 1) &&& (((1 : Int32) <<< (x1 &&& 31)) ^^^ (-1 : Int32)))) (zaO 0) 1) (zxU I_6 (zaO 0) 1 ((I_6 (zaO 0) 1) &&& (((1 : Int32) <<< (x1 &&& 31)) ^^^ (-1 : Int32)))) r_8 I_8 h_8 _) (va_cwS 1 hts gX6_blow_J6_bitCount_0f7a4 rfl rfl rfl hd_J6_bitCount_0f7a4 ⟨Nat.le_of_ble_eq_true rfl, Nat.le_of_ble_eq_true rfl⟩) (zx_preS hG) rfl rfl hl.1 rfl (lv_room (Nat.le_of_ble_eq_true rfl)) dX6_blow_68 ⟨Nat.le_refl _, Nat.le_refl _⟩) hG (fun H locs hG => ?_)
        exact zx_iret hx hb hr hlocks rfl hG hf dX6_blow_71
      · have hf := zx_neg c_7 hf
        refine lv_bipush (v := (-3 : Int32)) hx hb dX6_blow_41 (by decide) ?_
        exact zx_iret hx hb hr hlocks rfl hG hf dX6_blow_43
  · have hf := zx_pos c_2 hf
    refine lv_iconst (v := (-1 : Int32)) hx hb dX6_blow_8 (by decide) ?_
    exact zx_iret hx hb hr hlocks rfl hG hf dX6_blow_9

set_option maxHeartbeats 4000000 in
set_option maxRecDepth 100000 in
theorem mX6_isOfShift (l : Launch) (D : va_G) (ad : Nat → Nat) (cA : Nat → ClassId) (x0 : Int32) (I : zxI) (r : Int32) (J : zxI) (hf : fX6_isOfShift x0 I = some (r, J)) (sz : Nat) : Met l yX6_isOfShift wsX6_isOfShift { frames := 0, cells := 0, slots := 0, locals := 0 } (va_Pc [.int x0] (zxPre D shX ad cA I sz)) (va_Qi (fun (r2 : Int32) (I2 : zxI) => r2 = r ∧ I2 = J) (zxPost D shX ad cA sz) (zxA shX ad sz)) 0 0 (zxA shX ad sz) := by
  refine zx_start (by decide) rfl (Nat.le_of_ble_eq_true rfl) ?_
  intro p e s m args below meth c ls hx hb hr hts hown hlocks hml hG hl
  have hl : lv_has ls 1 [(0, .int x0)] := hl
  unfold fX6_isOfShift at hf
  refine lv_iload_n hx hb dX6_isOfShift_0 rfl (lv_at hl 0 rfl) ?_
  refine lv_if_lt (tgt := 9) hx hb dX6_isOfShift_1 (by decide) (fun c_1 => ?_) (fun c_1 => ?_)
  · have hf := zx_pos c_1 hf
    refine lv_iload_n hx hb dX6_isOfShift_9 rfl (lv_at hl 0 rfl) ?_
    refine lv_bipush (v := (10 : Int32)) hx hb dX6_isOfShift_10 (by decide) ?_
    refine lv_icmp_lt (tgt := 25) hx hb dX6_isOfShift_12 (by decide) (fun c_2 => ?_) (fun c_2 => ?_)
    · have hf := zx_pos c_2 hf
      refine lv_iconst (v := (0 : Int32)) hx hb dX6_isOfShift_25 (by decide) ?_
      exact zx_iret hx hb hr hlocks rfl hG hf dX6_isOfShift_26
    · have hf := zx_neg c_2 hf
      refine lv_iload_n hx hb dX6_isOfShift_15 rfl (lv_at hl 0 rfl) ?_
      refine lv_bipush (v := (16 : Int32)) hx hb dX6_isOfShift_16 (by decide) ?_
      refine lv_icmp_ge (tgt := 25) hx hb dX6_isOfShift_18 (by decide) (fun c_3 => ?_) (fun c_3 => ?_)
      · have hf := zx_pos c_3 hf
        refine lv_iconst (v := (0 : Int32)) hx hb dX6_isOfShift_25 (by decide) ?_
        exact zx_iret hx hb hr hlocks rfl hG hf dX6_isOfShift_26
      · have hf := zx_neg c_3 hf
        refine lv_iconst (v := (1 : Int32)) hx hb dX6_isOfShift_21 (by decide) ?_
        refine lv_goto (tgt := 26) hx hb dX6_isOfShift_22 (by decide) ?_
        exact zx_iret hx hb hr hlocks rfl hG hf dX6_isOfShift_26
  · have hf := zx_neg c_1 hf
    refine lv_iload_n hx hb dX6_isOfShift_4 rfl (lv_at hl 0 rfl) ?_
    refine lv_iconst (v := (3 : Int32)) hx hb dX6_isOfShift_5 (by decide) ?_
    refine lv_icmp_le (tgt := 21) hx hb dX6_isOfShift_6 (by decide) (fun c_4 => ?_) (fun c_4 => ?_)
    · have hf := zx_pos c_4 hf
      refine lv_iconst (v := (1 : Int32)) hx hb dX6_isOfShift_21 (by decide) ?_
      refine lv_goto (tgt := 26) hx hb dX6_isOfShift_22 (by decide) ?_
      exact zx_iret hx hb hr hlocks rfl hG hf dX6_isOfShift_26
    · have hf := zx_neg c_4 hf
      refine lv_iload_n hx hb dX6_isOfShift_9 rfl (lv_at hl 0 rfl) ?_
      refine lv_bipush (v := (10 : Int32)) hx hb dX6_isOfShift_10 (by decide) ?_
      refine lv_icmp_lt (tgt := 25) hx hb dX6_isOfShift_12 (by decide) (fun c_5 => ?_) (fun c_5 => ?_)
      · have hf := zx_pos c_5 hf
        refine lv_iconst (v := (0 : Int32)) hx hb dX6_isOfShift_25 (by decide) ?_
        exact zx_iret hx hb hr hlocks rfl hG hf dX6_isOfShift_26
      · have hf := zx_neg c_5 hf
        refine lv_iload_n hx hb dX6_isOfShift_15 rfl (lv_at hl 0 rfl) ?_
        refine lv_bipush (v := (16 : Int32)) hx hb dX6_isOfShift_16 (by decide) ?_
        refine lv_icmp_ge (tgt := 25) hx hb dX6_isOfShift_18 (by decide) (fun c_6 => ?_) (fun c_6 => ?_)
        · have hf := zx_pos c_6 hf
          refine lv_iconst (v := (0 : Int32)) hx hb dX6_isOfShift_25 (by decide) ?_
          exact zx_iret hx hb hr hlocks rfl hG hf dX6_isOfShift_26
        · have hf := zx_neg c_6 hf
          refine lv_iconst (v := (1 : Int32)) hx hb dX6_isOfShift_21 (by decide) ?_
          refine lv_goto (tgt := 26) hx hb dX6_isOfShift_22 (by decide) ?_
          exact zx_iret hx hb hr hlocks rfl hG hf dX6_isOfShift_26

set_option maxHeartbeats 4000000 in
set_option maxRecDepth 100000 in
theorem mX6_takePairs (l : Launch) (D : va_G) (ad : Nat → Nat) (cA : Nat → ClassId) (k1 : Nat) (hk1 : k1 < 4) (x2 : Int32) (x3 : Int32) (x4 : Int32) (I : zxI) (r : Int32) (J : zxI) (hf : fX6_takePairs k1 x2 x3 x4 I = some (r, J)) (sz : Nat) : Met l yX6_takePairs wsX6_takePairs { frames := 2, cells := 0, slots := 0, locals := 45 } (va_Pc [.ref (ad 0), .ref (ad (zsO k1)), .int x2, .int x3, .int x4] (zxPre D shX ad cA I sz)) (va_Qi (fun (r2 : Int32) (I2 : zxI) => r2 = r ∧ I2 = J) (zxPost D shX ad cA sz) (zxA shX ad sz)) 0 0 (zxA shX ad sz) := by
  refine zx_start (by decide) rfl (Nat.le_of_ble_eq_true rfl) ?_
  intro p e s m args below meth c ls hx hb hr hts hown hlocks hml hG hl
  have hl : lv_has ls 9 [(0, .ref (ad 0)), (1, .ref (ad (zsO k1))), (2, .int x2), (3, .int x3), (4, .int x4)] := hl
  have hiX1 : ∀ w ∈ wsX10, w ∈ wsX6_takePairs := fun w h => List.mem_cons_of_mem _ (List.mem_append_left _ (List.mem_append_right _ h))
  have hiX5 : ∀ w ∈ wsX50, w ∈ wsX6_takePairs := fun w h => List.mem_cons_of_mem _ (List.mem_append_left _ (List.mem_append_left _ (List.mem_append_left _ (List.mem_append_right _ h))))
  have hiX6 : ∀ w ∈ wsX60, w ∈ wsX6_takePairs := fun w h => List.mem_cons_of_mem _ (List.mem_append_left _ (List.mem_append_left _ (List.mem_append_right _ h)))
  have L1 := hts (Cond.fieldLink RX6 41 "GalleryBirds" "pairs" "LGalleryBirds$Pairs;") (List.mem_of_getElem? (i := 2) rfl)
  have L2 := hts (Cond.fieldLink RX6 164 "GalleryBirds$Pairs" "count" "I") (List.mem_of_getElem? (i := 5) rfl)
  have L3 := hts (Cond.fieldLink RX6 86 "GalleryBirds$Sheet" "cells" "[I") (List.mem_of_getElem? (i := 1) rfl)
  have L4 := hts (Cond.fieldLink RX6 167 "GalleryBirds$Pairs" "galleries" "[I") (List.mem_of_getElem? (i := 3) rfl)
  have L5 := hts (Cond.fieldLink RX6 169 "GalleryBirds$Pairs" "words" "[I") (List.mem_of_getElem? (i := 4) rfl)
  unfold fX6_takePairs at hf
  refine lv_aload_n hx hb dX6_takePairs_0 rfl (lv_at hl 1 rfl) ?_
  refine lv_iload_n hx hb dX6_takePairs_1 rfl (lv_at hl 2 rfl) ?_
  refine lv_iload_n hx hb dX6_takePairs_2 rfl (lv_at hl 3 rfl) ?_
  refine lv_iconst (v := (2 : Int32)) hx hb dX6_takePairs_3 (by decide) ?_
  refine lv_iload hx hb dX6_takePairs_4 (lv_at hl 4 rfl) ?_
  refine lv_imul hx hb dX6_takePairs_6 ?_
  obtain ⟨r_1, I_1, h_1, hf⟩ := zx_b hf
  refine zx_calli (va_runV (As := [.int x2, .int x3, .int ((2 : Int32) * x4)]) (rest := []) ⟨hx, hb, hml, hown, hts⟩ (mX5_faultOfCells l D ad cA k1 hk1 x2 x3 ((2 : Int32) * x4) I r_1 I_1 h_1 _) (cwV 3 hts gX6_takePairs_X5_faultOfCells rfl rfl rfl hd_X5_faultOfCells ⟨Nat.le_of_ble_eq_true rfl, Nat.le_of_ble_eq_true rfl⟩) (zx_preV hG (shX_sO hk1) vc_5) rfl rfl hl.1 rfl (lv_room (Nat.le_of_ble_eq_true rfl)) dX6_takePairs_7 ⟨Nat.le_refl _, Nat.le_refl _⟩) hG (fun H locs hG => ?_)
  refine lv_istore (lv' := [(5, .int r_1), (0, .ref (ad 0)), (1, .ref (ad (zsO k1))), (2, .int x2), (3, .int x3), (4, .int x4)]) hx hb dX6_takePairs_10 hl (by decide) rfl (fun ls hl => ?_)
  refine lv_iload hx hb dX6_takePairs_12 (lv_at hl 0 rfl) ?_
  refine lv_if_eq (tgt := 24) hx hb dX6_takePairs_14 (by decide) (fun c_2 => ?_) (fun c_2 => ?_)
  · have hf := zx_pos c_2 hf
    refine lv_aload_n hx hb dX6_takePairs_24 rfl (lv_at hl 1 rfl) ?_
    obtain ⟨r_3, I_3, h_3, hf⟩ := zx_b hf
    refine zx_calli (va_runV (As := []) (rest := []) ⟨hx, hb, hml, hown, hts⟩ (mX6_hasMine l D ad cA I_1 r_3 I_3 h_3 _) (cwV 0 hts gX6_takePairs_X6_hasMine rfl rfl rfl hd_X6_hasMine ⟨Nat.le_of_ble_eq_true rfl, Nat.le_of_ble_eq_true rfl⟩) (zx_preV hG shX_0 vc_6) rfl rfl hl.1 rfl (lv_room (Nat.le_of_ble_eq_true rfl)) dX6_takePairs_25 ⟨Nat.le_refl _, Nat.le_refl _⟩) hG (fun H locs hG => ?_)
    refine lv_if_ne (tgt := 34) hx hb dX6_takePairs_28 (by decide) (fun c_4 => ?_) (fun c_4 => ?_)
    · have hf := zx_neg c_4 hf
      refine lv_iconst (v := (0 : Int32)) hx hb dX6_takePairs_34 (by decide) ?_
      refine lv_istore (lv' := [(6, .int (0 : Int32)), (5, .int r_1), (0, .ref (ad 0)), (1, .ref (ad (zsO k1))), (2, .int x2), (3, .int x3), (4, .int x4)]) hx hb dX6_takePairs_35 hl (by decide) rfl (fun ls hl => ?_)
      have loop37 : ∀ (n : Nat) (v3 : Int32) (v4 : Int32) (v6 : Int32) (I : zxI) (H : Heap) (locs : List Loc) (ls : Array Slot), fX6_takePairs_L37 k1 n v3 v4 v6 I = some (r, J) → zxAt D shX ad cA I s sz H locs → lv_has ls 9 [(0, .ref (ad 0)), (1, .ref (ad (zsO k1))), (3, .int v3), (4, .int v4), (6, .int v6)] → W p l e (headSpec wsX6_takePairs { frames := 2, cells := 0, slots := 0, locals := 45 }).room s m args below meth c H locs 0 0 (MQ below (va_Qi (fun (r2 : Int32) (I2 : zxI) => r2 = r ∧ I2 = J) (zxPost D shX ad cA sz) (zxA shX ad sz)) args s 0 0 (zxA shX ad sz)) (F0 m 37 ls []) := by
        intro n
        induction n with
        | zero =>
          intro v3 v4 v6 I H locs ls hf hG hl
          rw [fX6_takePairs_L37] at hf
          cases hf
        | succ n37 ih37 =>
          intro v3 v4 v6 I H locs ls hf hG hl
          rw [fX6_takePairs_L37] at hf
          refine lv_iload hx hb dX6_takePairs_37 (lv_at hl 4 rfl) ?_
          refine lv_iload hx hb dX6_takePairs_39 (lv_at hl 3 rfl) ?_
          refine lv_icmp_ge (tgt := 122) hx hb dX6_takePairs_41 (by decide) (fun c_5 => ?_) (fun c_5 => ?_)
          · have hf := zx_pos c_5 hf
            refine lv_aload_n hx hb dX6_takePairs_122 rfl (lv_at hl 0 rfl) ?_
            refine zx_getR (d := 35) hx hb hts hiX6 hown hG shX_0 vc_6 4 (by decide) rfl L1 dX6_takePairs_123 ?_
            refine lv_iload hx hb dX6_takePairs_126 (lv_at hl 3 rfl) ?_
            refine zx_putI hx hb hts hiX1 tyX1 tyX1_ok nmX1 hown hG shX_35 vc_1 0 (by decide) rfl L2 rfl (ty := .int) (tyX1_ok 0 (by decide)) rfl rfl dX6_takePairs_128 (fun H locs hG => ?_)
            refine lv_iconst (v := (0 : Int32)) hx hb dX6_takePairs_131 (by decide) ?_
            exact zx_iret hx hb hr hlocks rfl hG hf dX6_takePairs_132
          · have hf := zx_neg c_5 hf
            refine lv_aload_n hx hb dX6_takePairs_44 rfl (lv_at hl 1 rfl) ?_
            refine zx_getR (d := (zsC k1)) hx hb hts hiX5 hown hG (shX_sO hk1) vc_5 2 (by decide) rfl L3 dX6_takePairs_45 ?_
            refine lv_iload_n hx hb dX6_takePairs_48 rfl (lv_at hl 2 rfl) ?_
            refine lv_iconst (v := (2 : Int32)) hx hb dX6_takePairs_49 (by decide) ?_
            refine lv_iload hx hb dX6_takePairs_50 (lv_at hl 4 rfl) ?_
            refine lv_imul hx hb dX6_takePairs_52 ?_
            refine lv_iadd hx hb dX6_takePairs_53 ?_
            obtain ⟨g_6, hf⟩ := zx_in hf
            refine zx_ald hx hb hG (shX_sC hk1) g_6 dX6_takePairs_54 ?_
            refine lv_istore (lv' := [(7, .int (I (zsC k1) (v3 + ((2 : Int32) * v6)).toNatClampNeg)), (0, .ref (ad 0)), (1, .ref (ad (zsO k1))), (3, .int v3), (4, .int v4), (6, .int v6)]) hx hb dX6_takePairs_55 hl (by decide) rfl (fun ls hl => ?_)
            refine lv_aload_n hx hb dX6_takePairs_57 rfl (lv_at hl 2 rfl) ?_
            refine zx_getR (d := (zsC k1)) hx hb hts hiX5 hown hG (shX_sO hk1) vc_5 2 (by decide) rfl L3 dX6_takePairs_58 ?_
            refine lv_iload_n hx hb dX6_takePairs_61 rfl (lv_at hl 3 rfl) ?_
            refine lv_iconst (v := (2 : Int32)) hx hb dX6_takePairs_62 (by decide) ?_
            refine lv_iload hx hb dX6_takePairs_63 (lv_at hl 5 rfl) ?_
            refine lv_imul hx hb dX6_takePairs_65 ?_
            refine lv_iadd hx hb dX6_takePairs_66 ?_
            refine lv_iconst (v := (1 : Int32)) hx hb dX6_takePairs_67 (by decide) ?_
            refine lv_iadd hx hb dX6_takePairs_68 ?_
            obtain ⟨g_7, hf⟩ := zx_in hf
            refine zx_ald hx hb hG (shX_sC hk1) g_7 dX6_takePairs_69 ?_
            refine lv_istore (lv' := [(8, .int (I (zsC k1) ((v3 + ((2 : Int32) * v6)) + (1 : Int32)).toNatClampNeg)), (7, .int (I (zsC k1) (v3 + ((2 : Int32) * v6)).toNatClampNeg)), (0, .ref (ad 0)), (1, .ref (ad (zsO k1))), (3, .int v3), (4, .int v4), (6, .int v6)]) hx hb dX6_takePairs_70 hl (by decide) rfl (fun ls hl => ?_)
            refine lv_aload_n hx hb dX6_takePairs_72 rfl (lv_at hl 2 rfl) ?_
            refine lv_iload hx hb dX6_takePairs_73 (lv_at hl 1 rfl) ?_
            obtain ⟨r_8, I_8, h_8, hf⟩ := zx_b hf
            refine zx_calli (va_runV (As := [.int (I (zsC k1) (v3 + ((2 : Int32) * v6)).toNatClampNeg)]) (rest := []) ⟨hx, hb, hml, hown, hts⟩ (mX6_isGallery l D ad cA (I (zsC k1) (v3 + ((2 : Int32) * v6)).toNatClampNeg) I r_8 I_8 h_8 _) (cwV 1 hts gX6_takePairs_X6_isGallery rfl rfl rfl hd_X6_isGallery ⟨Nat.le_of_ble_eq_true rfl, Nat.le_of_ble_eq_true rfl⟩) (zx_preV hG shX_0 vc_6) rfl rfl hl.1 rfl (lv_room (Nat.le_of_ble_eq_true rfl)) dX6_takePairs_75 ⟨Nat.le_refl _, Nat.le_refl _⟩) hG (fun H locs hG => ?_)
            refine lv_if_eq (tgt := 90) hx hb dX6_takePairs_78 (by decide) (fun c_9 => ?_) (fun c_9 => ?_)
            · have hf := zx_pos c_9 hf
              refine lv_iconst (v := (-1 : Int32)) hx hb dX6_takePairs_90 (by decide) ?_
              exact zx_iret hx hb hr hlocks rfl hG hf dX6_takePairs_91
            · have hf := zx_neg c_9 hf
              refine lv_aload_n hx hb dX6_takePairs_81 rfl (lv_at hl 2 rfl) ?_
              refine lv_iload hx hb dX6_takePairs_82 (lv_at hl 0 rfl) ?_
              obtain ⟨r_10, I_10, h_10, hf⟩ := zx_b hf
              refine zx_calli (va_runV (As := [.int (I (zsC k1) ((v3 + ((2 : Int32) * v6)) + (1 : Int32)).toNatClampNeg)]) (rest := []) ⟨hx, hb, hml, hown, hts⟩ (mX6_isWord l D ad cA (I (zsC k1) ((v3 + ((2 : Int32) * v6)) + (1 : Int32)).toNatClampNeg) I_8 r_10 I_10 h_10 _) (cwV 1 hts gX6_takePairs_X6_isWord rfl rfl rfl hd_X6_isWord ⟨Nat.le_of_ble_eq_true rfl, Nat.le_of_ble_eq_true rfl⟩) (zx_preV hG shX_0 vc_6) rfl rfl hl.1 rfl (lv_room (Nat.le_of_ble_eq_true rfl)) dX6_takePairs_84 ⟨Nat.le_refl _, Nat.le_refl _⟩) hG (fun H locs hG => ?_)
              refine lv_if_ne (tgt := 92) hx hb dX6_takePairs_87 (by decide) (fun c_11 => ?_) (fun c_11 => ?_)
              · have hf := zx_neg c_11 hf
                refine lv_aload_n hx hb dX6_takePairs_92 rfl (lv_at hl 2 rfl) ?_
                refine zx_getR (d := 35) hx hb hts hiX6 hown hG shX_0 vc_6 4 (by decide) rfl L1 dX6_takePairs_93 ?_
                refine zx_getR (d := 36) hx hb hts hiX1 hown hG shX_35 vc_1 1 (by decide) rfl L4 dX6_takePairs_96 ?_
                refine lv_iload hx hb dX6_takePairs_99 (lv_at hl 6 rfl) ?_
                refine lv_iload hx hb dX6_takePairs_101 (lv_at hl 1 rfl) ?_
                obtain ⟨g_12, hf⟩ := zx_in hf
                refine zx_ast hx hb hG shX_36 g_12 dX6_takePairs_103 (fun H locs hG => ?_)
                refine lv_aload_n hx hb dX6_takePairs_104 rfl (lv_at hl 2 rfl) ?_
                refine zx_getR (d := 35) hx hb hts hiX6 hown hG shX_0 vc_6 4 (by decide) rfl L1 dX6_takePairs_105 ?_
                refine zx_getR (d := 37) hx hb hts hiX1 hown hG shX_35 vc_1 2 (by decide) rfl L5 dX6_takePairs_108 ?_
                refine lv_iload hx hb dX6_takePairs_111 (lv_at hl 6 rfl) ?_
                refine lv_iload hx hb dX6_takePairs_113 (lv_at hl 0 rfl) ?_
                refine zx_ast hx hb hG shX_37 g_12 dX6_takePairs_115 (fun H locs hG => ?_)
                refine lv_iinc (v := (v6 + (1 : Int32))) (lv' := [(6, .int (v6 + (1 : Int32))), (8, .int (I (zsC k1) ((v3 + ((2 : Int32) * v6)) + (1 : Int32)).toNatClampNeg)), (7, .int (I (zsC k1) (v3 + ((2 : Int32) * v6)).toNatClampNeg)), (0, .ref (ad 0)), (1, .ref (ad (zsO k1))), (3, .int v3), (4, .int v4)]) hx hb dX6_takePairs_116 hl (k := 6) rfl (congrArg (HAdd.hAdd v6) (by decide)) (by decide) rfl (fun ls hl => ?_)
                refine lv_goto (tgt := 37) hx hb dX6_takePairs_119 (by decide) ?_
                exact ih37 v3 v4 (v6 + (1 : Int32)) (zxU (zxU I_10 36 v6.toNatClampNeg (I (zsC k1) (v3 + ((2 : Int32) * v6)).toNatClampNeg)) 37 v6.toNatClampNeg (I (zsC k1) ((v3 + ((2 : Int32) * v6)) + (1 : Int32)).toNatClampNeg)) _ _ ls hf hG (lv_sub hl [3, 4, 5, 6, 0] rfl)
              · have hf := zx_pos c_11 hf
                refine lv_iconst (v := (-1 : Int32)) hx hb dX6_takePairs_90 (by decide) ?_
                exact zx_iret hx hb hr hlocks rfl hG hf dX6_takePairs_91
      exact loop37 _ x3 x4 (0 : Int32) I_3 _ _ ls hf hG (lv_sub hl [2, 3, 5, 6, 0] rfl)
    · have hf := zx_pos c_4 hf
      refine lv_bipush (v := (-3 : Int32)) hx hb dX6_takePairs_31 (by decide) ?_
      exact zx_iret hx hb hr hlocks rfl hG hf dX6_takePairs_33
  · have hf := zx_neg c_2 hf
    refine lv_aload_n hx hb dX6_takePairs_17 rfl (lv_at hl 1 rfl) ?_
    refine lv_iload hx hb dX6_takePairs_18 (lv_at hl 0 rfl) ?_
    obtain ⟨r_14, I_14, h_14, hf⟩ := zx_b hf
    refine zx_calli (va_runV (As := [.int r_1]) (rest := []) ⟨hx, hb, hml, hown, hts⟩ (mX6_faulted l D ad cA r_1 I_1 r_14 I_14 h_14 _) (cwV 1 hts gX6_takePairs_X6_faulted rfl rfl rfl hd_X6_faulted ⟨Nat.le_of_ble_eq_true rfl, Nat.le_of_ble_eq_true rfl⟩) (zx_preV hG shX_0 vc_6) rfl rfl hl.1 rfl (lv_room (Nat.le_of_ble_eq_true rfl)) dX6_takePairs_20 ⟨Nat.le_refl _, Nat.le_refl _⟩) hG (fun H locs hG => ?_)
    exact zx_iret hx hb hr hlocks rfl hG hf dX6_takePairs_23
