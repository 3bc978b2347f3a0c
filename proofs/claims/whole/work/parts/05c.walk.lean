/-! walks of methods (laid by wip/whole/gen.py) -/
set_option maxHeartbeats 4000000 in
set_option maxRecDepth 100000 in
theorem mX6_foulTogether (l : Launch) (D : va_G) (ad : Nat → Nat) (cA : Nat → ClassId) (j1 : Nat) (hj1 : j1 < 8) (I : zxI) (r : Int32) (J : zxI) (hf : fX6_foulTogether j1 I = some (r, J)) (sz : Nat) : Met l yX6_foulTogether wsX6_foulTogether { frames := 0, cells := 0, slots := 0, locals := 0 } (va_Pc [.ref (ad 0), .ref (ad (zaO j1))] (zxPre D shX ad cA I sz)) (va_Qi (fun (r2 : Int32) (I2 : zxI) => r2 = r ∧ I2 = J) (zxPost D shX ad cA sz) (zxA shX ad sz)) 0 0 (zxA shX ad sz) := by
  refine zx_start (by decide) rfl (Nat.le_of_ble_eq_true rfl) ?_
  intro p e s m args below meth c ls hx hb hr hts hown hlocks hml hG hl
  have hl : lv_has ls 4 [(0, .ref (ad 0)), (1, .ref (ad (zaO j1)))] := hl
  have hiX0 : ∀ w ∈ wsX00, w ∈ wsX6_foulTogether := fun w h => List.mem_cons_of_mem _ (List.mem_append_right _ h)
  have hiX2 : ∀ w ∈ wsX20, w ∈ wsX6_foulTogether := fun w h => List.mem_cons_of_mem _ (List.mem_append_left _ (List.mem_append_right _ h))
  have hiX6 : ∀ w ∈ wsX60, w ∈ wsX6_foulTogether := fun w h => List.mem_cons_of_mem _ (List.mem_append_left _ (List.mem_append_left _ (List.mem_append_right _ h)))
  have L1 := hts (Cond.fieldLink RX6 20 "GalleryBirds" "pit" "LGalleryBirds$Pit;") (List.mem_of_getElem? (i := 1) rfl)
  have L2 := hts (Cond.fieldLink RX6 97 "GalleryBirds$Pit" "galleries" "I") (List.mem_of_getElem? (i := 2) rfl)
  have L3 := hts (Cond.fieldLink RX6 106 "GalleryBirds$Air" "fouls" "[I") (List.mem_of_getElem? (i := 3) rfl)
  unfold fX6_foulTogether at hf
  refine lv_iconst (v := (0 : Int32)) hx hb dX6_foulTogether_0 (by decide) ?_
  refine lv_istore_n (lv' := [(2, .int (0 : Int32)), (0, .ref (ad 0)), (1, .ref (ad (zaO j1)))]) hx hb dX6_foulTogether_1 rfl hl (by decide) rfl (fun ls hl => ?_)
  refine lv_iconst (v := (0 : Int32)) hx hb dX6_foulTogether_2 (by decide) ?_
  refine lv_istore_n (lv' := [(3, .int (0 : Int32)), (2, .int (0 : Int32)), (0, .ref (ad 0)), (1, .ref (ad (zaO j1)))]) hx hb dX6_foulTogether_3 rfl hl (by decide) rfl (fun ls hl => ?_)
  have loop4 : ∀ (n : Nat) (v2 : Int32) (v3 : Int32) (I : zxI) (H : Heap) (locs : List Loc) (ls : Array Slot), fX6_foulTogether_L4 j1 n v2 v3 I = some (r, J) → zxAt D shX ad cA I s sz H locs → lv_has ls 4 [(0, .ref (ad 0)), (1, .ref (ad (zaO j1))), (2, .int v2), (3, .int v3)] → W p l e (headSpec wsX6_foulTogether { frames := 0, cells := 0, slots := 0, locals := 0 }).room s m args below meth c H locs 0 0 (MQ below (va_Qi (fun (r2 : Int32) (I2 : zxI) => r2 = r ∧ I2 = J) (zxPost D shX ad cA sz) (zxA shX ad sz)) args s 0 0 (zxA shX ad sz)) (F0 m 4 ls []) := by
    intro n
    induction n with
    | zero =>
      intro v2 v3 I H locs ls hf hG hl
      rw [fX6_foulTogether_L4] at hf
      cases hf
    | succ n4 ih4 =>
      intro v2 v3 I H locs ls hf hG hl
      rw [fX6_foulTogether_L4] at hf
      refine lv_iload_n hx hb dX6_foulTogether_4 rfl (lv_at hl 3 rfl) ?_
      refine lv_aload_n hx hb dX6_foulTogether_5 rfl (lv_at hl 0 rfl) ?_
      refine zx_getR (d := 10) hx hb hts hiX6 hown hG shX_0 vc_6 1 (by decide) rfl L1 dX6_foulTogether_6 ?_
      refine zx_getI hx hb hts hiX2 hown hG shX_10 vc_2 0 (by decide) rfl L2 dX6_foulTogether_9 ?_
      refine lv_icmp_ge (tgt := 30) hx hb dX6_foulTogether_12 (by decide) (fun c_1 => ?_) (fun c_1 => ?_)
      · have hf := zx_pos c_1 hf
        refine lv_iload_n hx hb dX6_foulTogether_30 rfl (lv_at hl 2 rfl) ?_
        exact zx_iret hx hb hr hlocks rfl hG hf dX6_foulTogether_31
      · have hf := zx_neg c_1 hf
        refine lv_iload_n hx hb dX6_foulTogether_15 rfl (lv_at hl 2 rfl) ?_
        refine lv_aload_n hx hb dX6_foulTogether_16 rfl (lv_at hl 1 rfl) ?_
        refine zx_getR (d := (zaF j1)) hx hb hts hiX0 hown hG (shX_aO hj1) vc_0 0 (by decide) rfl L3 dX6_foulTogether_17 ?_
        refine lv_iload_n hx hb dX6_foulTogether_20 rfl (lv_at hl 3 rfl) ?_
        obtain ⟨g_2, hf⟩ := zx_in hf
        refine zx_ald hx hb hG (shX_aF hj1) g_2 dX6_foulTogether_21 ?_
        refine lv_iadd hx hb dX6_foulTogether_22 ?_
        refine lv_istore_n (lv' := [(2, .int (v2 + (I (zaF j1) v3.toNatClampNeg))), (0, .ref (ad 0)), (1, .ref (ad (zaO j1))), (3, .int v3)]) hx hb dX6_foulTogether_23 rfl hl (by decide) rfl (fun ls hl => ?_)
        refine lv_iinc (v := (v3 + (1 : Int32))) (lv' := [(3, .int (v3 + (1 : Int32))), (2, .int (v2 + (I (zaF j1) v3.toNatClampNeg))), (0, .ref (ad 0)), (1, .ref (ad (zaO j1)))]) hx hb dX6_foulTogether_24 hl (k := 3) rfl (congrArg (HAdd.hAdd v3) (by decide)) (by decide) rfl (fun ls hl => ?_)
        refine lv_goto (tgt := 4) hx hb dX6_foulTogether_27 (by decide) ?_
        exact ih4 (v2 + (I (zaF j1) v3.toNatClampNeg)) (v3 + (1 : Int32)) I _ _ ls hf hG (lv_sub hl [2, 3, 1, 0] rfl)
  exact loop4 _ (0 : Int32) (0 : Int32) I _ _ ls hf hG (lv_sub hl [2, 3, 1, 0] rfl)

set_option maxHeartbeats 4000000 in
set_option maxRecDepth 100000 in
theorem mX6_shift (l : Launch) (D : va_G) (ad : Nat → Nat) (cA : Nat → ClassId) (x1 : Int32) (x2 : Int32) (x3 : Int32) (x4 : Int32) (x5 : Int32) (I : zxI) (r : Int32) (J : zxI) (hf : fX6_shift x1 x2 x3 x4 x5 I = some (r, J)) (sz : Nat) : Met l yX6_shift wsX6_shift { frames := 5, cells := 0, slots := 0, locals := 111 } (va_Pc [.ref (ad 0), .int x1, .int x2, .int x3, .int x4, .int x5] (zxPre D shX ad cA I sz)) (va_Qi (fun (r2 : Int32) (I2 : zxI) => r2 = r ∧ I2 = J) (zxPost D shX ad cA sz) (zxA shX ad sz)) 0 0 (zxA shX ad sz) := by
  refine zx_start (by decide) rfl (Nat.le_of_ble_eq_true rfl) ?_
  intro p e s m args below meth c ls hx hb hr hts hown hlocks hml hG hl
  have hl : lv_has ls 12 [(0, .ref (ad 0)), (1, .int x1), (2, .int x2), (3, .int x3), (4, .int x4), (5, .int x5)] := hl
  have hiX0 : ∀ w ∈ wsX00, w ∈ wsX6_shift := fun w h => List.mem_cons_of_mem _ (List.mem_append_left _ (List.mem_append_right _ h))
  have hiX1 : ∀ w ∈ wsX10, w ∈ wsX6_shift := fun w h => List.mem_cons_of_mem _ (List.mem_append_left _ (List.mem_append_left _ (List.mem_append_left _ (List.mem_append_right _ h))))
  have hiX2 : ∀ w ∈ wsX20, w ∈ wsX6_shift := fun w h => List.mem_cons_of_mem _ (List.mem_append_left _ (List.mem_append_left _ (List.mem_append_right _ h)))
  have hiX6 : ∀ w ∈ wsX60, w ∈ wsX6_shift := fun w h => List.mem_cons_of_mem _ (List.mem_append_left _ (List.mem_append_left _ (List.mem_append_left _ (List.mem_append_left _ (List.mem_append_right _ h)))))
  have L1 := hts (Cond.fieldLink RX6 67 "GalleryBirds" "lastFault" "I") (List.mem_of_getElem? (i := 1) rfl)
  have L2 := hts (Cond.fieldLink RX6 13 "GalleryBirds" "sheets" "[LGalleryBirds$Sheet;") (List.mem_of_getElem? (i := 2) rfl)
  have L3 := hts (Cond.fieldLink RX6 45 "GalleryBirds" "trials" "[LGalleryBirds$Air;") (List.mem_of_getElem? (i := 3) rfl)
  have L4 := hts (Cond.fieldLink RX6 27 "GalleryBirds" "air" "LGalleryBirds$Air;") (List.mem_of_getElem? (i := 4) rfl)
  have L5 := hts (Cond.fieldLink RX6 41 "GalleryBirds" "pairs" "LGalleryBirds$Pairs;") (List.mem_of_getElem? (i := 5) rfl)
  have L6 := hts (Cond.fieldLink RX6 164 "GalleryBirds$Pairs" "count" "I") (List.mem_of_getElem? (i := 6) rfl)
  have L7 := hts (Cond.fieldLink RX6 115 "GalleryBirds$Air" "down" "I") (List.mem_of_getElem? (i := 11) rfl)
  have L8 := hts (Cond.fieldLink RX6 106 "GalleryBirds$Air" "fouls" "[I") (List.mem_of_getElem? (i := 12) rfl)
  have L9 := hts (Cond.fieldLink RX6 20 "GalleryBirds" "pit" "LGalleryBirds$Pit;") (List.mem_of_getElem? (i := 7) rfl)
  have L10 := hts (Cond.fieldLink RX6 121 "GalleryBirds$Pit" "doors" "I") (List.mem_of_getElem? (i := 8) rfl)
  have L11 := hts (Cond.fieldLink RX6 167 "GalleryBirds$Pairs" "galleries" "[I") (List.mem_of_getElem? (i := 9) rfl)
  have L12 := hts (Cond.fieldLink RX6 169 "GalleryBirds$Pairs" "words" "[I") (List.mem_of_getElem? (i := 10) rfl)
  unfold fX6_shift at hf
  refine lv_aload_n hx hb dX6_shift_0 rfl (lv_at hl 0 rfl) ?_
  refine lv_iconst (v := (0 : Int32)) hx hb dX6_shift_1 (by decide) ?_
  refine zx_putI hx hb hts hiX6 tyX6 tyX6_ok nmX6 hown hG shX_0 vc_6 10 (by decide) rfl L1 rfl (ty := .int) (tyX6_ok 10 (by decide)) rfl rfl dX6_shift_2 (fun H locs hG => ?_)
  refine lv_iload_n hx hb dX6_shift_5 rfl (lv_at hl 1 rfl) ?_
  obtain ⟨r_1, I_1, h_1, hf⟩ := zx_b hf
  refine zx_calli (va_runS (As := [.int x1]) (rest := []) ⟨hx, hb, hml, hown, hts⟩ (mX6_isSheet l D ad cA x1 (zxU I 0 10 (0 : Int32)) r_1 I_1 h_1 _) (va_cwS 1 hts gX6_shift_X6_isSheet rfl rfl rfl hd_X6_isSheet ⟨Nat.le_of_ble_eq_true rfl, Nat.le_of_ble_eq_true rfl⟩) (zx_preS hG) rfl rfl hl.1 rfl (lv_room (Nat.le_of_ble_eq_true rfl)) dX6_shift_6 ⟨Nat.le_refl _, Nat.le_refl _⟩) hG (fun H locs hG => ?_)
  refine lv_if_ne (tgt := 14) hx hb dX6_shift_9 (by decide) (fun c_2 => ?_) (fun c_2 => ?_)
  · have hf := zx_neg c_2 hf
    refine lv_iload_n hx hb dX6_shift_14 rfl (lv_at hl 2 rfl) ?_
    obtain ⟨r_3, I_3, h_3, hf⟩ := zx_b hf
    refine zx_calli (va_runS (As := [.int x2]) (rest := []) ⟨hx, hb, hml, hown, hts⟩ (mX6_isLane l D ad cA x2 I_1 r_3 I_3 h_3 _) (va_cwS 1 hts gX6_shift_X6_isLane rfl rfl rfl hd_X6_isLane ⟨Nat.le_of_ble_eq_true rfl, Nat.le_of_ble_eq_true rfl⟩) (zx_preS hG) rfl rfl hl.1 rfl (lv_room (Nat.le_of_ble_eq_true rfl)) dX6_shift_15 ⟨Nat.le_refl _, Nat.le_refl _⟩) hG (fun H locs hG => ?_)
    refine lv_if_eq (tgt := 41) hx hb dX6_shift_18 (by decide) (fun c_4 => ?_) (fun c_4 => ?_)
    · have hf := zx_pos c_4 hf
      refine lv_bipush (v := (-2 : Int32)) hx hb dX6_shift_41 (by decide) ?_
      exact zx_iret hx hb hr hlocks rfl hG hf dX6_shift_43
    · have hf := zx_neg c_4 hf
      refine lv_iload hx hb dX6_shift_21 (lv_at hl 4 rfl) ?_
      refine lv_if_lt (tgt := 41) hx hb dX6_shift_23 (by decide) (fun c_5 => ?_) (fun c_5 => ?_)
      · have hf := zx_pos c_5 hf
        refine lv_bipush (v := (-2 : Int32)) hx hb dX6_shift_41 (by decide) ?_
        exact zx_iret hx hb hr hlocks rfl hG hf dX6_shift_43
      · have hf := zx_neg c_5 hf
        refine lv_iload hx hb dX6_shift_26 (lv_at hl 4 rfl) ?_
        refine lv_bipush (v := (20 : Int32)) hx hb dX6_shift_28 (by decide) ?_
        refine lv_icmp_gt (tgt := 41) hx hb dX6_shift_30 (by decide) (fun c_6 => ?_) (fun c_6 => ?_)
        · have hf := zx_pos c_6 hf
          refine lv_bipush (v := (-2 : Int32)) hx hb dX6_shift_41 (by decide) ?_
          exact zx_iret hx hb hr hlocks rfl hG hf dX6_shift_43
        · have hf := zx_neg c_6 hf
          refine lv_iload hx hb dX6_shift_33 (lv_at hl 5 rfl) ?_
          obtain ⟨r_7, I_7, h_7, hf⟩ := zx_b hf
          refine zx_calli (va_runS (As := [.int x5]) (rest := []) ⟨hx, hb, hml, hown, hts⟩ (mX6_isOfShift l D ad cA x5 I_3 r_7 I_7 h_7 _) (va_cwS 1 hts gX6_shift_X6_isOfShift rfl rfl rfl hd_X6_isOfShift ⟨Nat.le_of_ble_eq_true rfl, Nat.le_of_ble_eq_true rfl⟩) (zx_preS hG) rfl rfl hl.1 rfl (lv_room (Nat.le_of_ble_eq_true rfl)) dX6_shift_35 ⟨Nat.le_refl _, Nat.le_refl _⟩) hG (fun H locs hG => ?_)
          refine lv_if_ne (tgt := 44) hx hb dX6_shift_38 (by decide) (fun c_8 => ?_) (fun c_8 => ?_)
          · have hf := zx_neg c_8 hf
            refine lv_aload_n hx hb dX6_shift_44 rfl (lv_at hl 0 rfl) ?_
            refine lv_aload_n hx hb dX6_shift_45 rfl (lv_at hl 0 rfl) ?_
            refine zx_getR (d := 1) hx hb hts hiX6 hown hG shX_0 vc_6 0 (by decide) rfl L2 dX6_shift_46 ?_
            refine lv_iload_n hx hb dX6_shift_49 rfl (lv_at hl 1 rfl) ?_
            obtain ⟨g_9, hf⟩ := zx_in hf
            refine zx_aldR (d := (zsO (x1.toNatClampNeg))) (t := 1) hx hb hG shX_1 rfl g_9 (shX_rs (zx_lt g_9)) dX6_shift_50 ?_
            refine lv_iload_n hx hb dX6_shift_51 rfl (lv_at hl 2 rfl) ?_
            refine lv_iload_n hx hb dX6_shift_52 rfl (lv_at hl 3 rfl) ?_
            refine lv_iload hx hb dX6_shift_53 (lv_at hl 4 rfl) ?_
            obtain ⟨r_10, I_10, h_10, hf⟩ := zx_b hf
            refine zx_calli (va_runV (As := [.ref (ad (zsO (x1.toNatClampNeg))), .int x2, .int x3, .int x4]) (rest := []) ⟨hx, hb, hml, hown, hts⟩ (mX6_takePairs l D ad cA (x1.toNatClampNeg) (zx_lt g_9) x2 x3 x4 I_7 r_10 I_10 h_10 _) (cwV 4 hts gX6_shift_X6_takePairs rfl rfl rfl hd_X6_takePairs ⟨Nat.le_of_ble_eq_true rfl, Nat.le_of_ble_eq_true rfl⟩) (zx_preV hG shX_0 vc_6) rfl rfl hl.1 rfl (lv_room (Nat.le_of_ble_eq_true rfl)) dX6_shift_55 ⟨Nat.le_refl _, Nat.le_refl _⟩) hG (fun H locs hG => ?_)
            refine lv_istore (lv' := [(6, .int r_10), (0, .ref (ad 0)), (1, .int x1), (2, .int x2), (3, .int x3), (4, .int x4), (5, .int x5)]) hx hb dX6_shift_58 hl (by decide) rfl (fun ls hl => ?_)
            refine lv_iload hx hb dX6_shift_60 (lv_at hl 0 rfl) ?_
            refine lv_if_eq (tgt := 68) hx hb dX6_shift_62 (by decide) (fun c_11 => ?_) (fun c_11 => ?_)
            · have hf := zx_pos c_11 hf
              refine lv_aload_n hx hb dX6_shift_68 rfl (lv_at hl 1 rfl) ?_
              refine zx_getR (d := 30) hx hb hts hiX6 hown hG shX_0 vc_6 5 (by decide) rfl L3 dX6_shift_69 ?_
              refine lv_iconst (v := (0 : Int32)) hx hb dX6_shift_72 (by decide) ?_
              refine zx_aldR (d := (zaO 1)) (t := 2) hx hb hG shX_30 rfl (by unfold vp_in; decide) (by decide) dX6_shift_73 ?_
              refine lv_astore (lv' := [(7, .ref (ad (zaO 1))), (6, .int r_10), (0, .ref (ad 0)), (1, .int x1), (2, .int x2), (3, .int x3), (4, .int x4), (5, .int x5)]) hx hb dX6_shift_74 hl (by decide) rfl (fun ls hl => ?_)
              refine lv_aload hx hb dX6_shift_76 (lv_at hl 0 rfl) ?_
              refine lv_aload_n hx hb dX6_shift_78 rfl (lv_at hl 2 rfl) ?_
              refine zx_getR (d := (zaO 0)) hx hb hts hiX6 hown hG shX_0 vc_6 2 (by decide) rfl L4 dX6_shift_79 ?_
              obtain ⟨I_13, h_13, hf⟩ := zx_v hf
              refine zx_callv (va_runV (As := [.ref (ad (zaO 0))]) (rest := []) ⟨hx, hb, hml, hown, hts⟩ (mX0_becomeLike l D ad cA 1 0 (by decide : 1 < 8) (by decide : 0 < 8) I_10 I_13 h_13 _) (cwV 1 hts gX6_shift_X0_becomeLike rfl rfl rfl hd_X0_becomeLike ⟨Nat.le_of_ble_eq_true rfl, Nat.le_of_ble_eq_true rfl⟩) (zx_preV hG (shX_aO (by decide : 1 < 8)) vc_0) rfl rfl hl.1 rfl (lv_room (Nat.le_of_ble_eq_true rfl)) dX6_shift_82 ⟨Nat.le_refl _, Nat.le_refl _⟩) hG (fun H locs hG => ?_)
              refine lv_iconst (v := (0 : Int32)) hx hb dX6_shift_85 (by decide) ?_
              refine lv_istore (lv' := [(8, .int (0 : Int32)), (7, .ref (ad (zaO 1))), (6, .int r_10), (0, .ref (ad 0)), (1, .int x1), (2, .int x2), (3, .int x3), (4, .int x4), (5, .int x5)]) hx hb dX6_shift_86 hl (by decide) rfl (fun ls hl => ?_)
              refine lv_bipush (v := (-9 : Int32)) hx hb dX6_shift_88 (by decide) ?_
              refine lv_istore (lv' := [(9, .int (-9 : Int32)), (8, .int (0 : Int32)), (7, .ref (ad (zaO 1))), (6, .int r_10), (0, .ref (ad 0)), (1, .int x1), (2, .int x2), (3, .int x3), (4, .int x4), (5, .int x5)]) hx hb dX6_shift_90 hl (by decide) rfl (fun ls hl => ?_)
              refine lv_iconst (v := (0 : Int32)) hx hb dX6_shift_92 (by decide) ?_
              refine lv_istore (lv' := [(10, .int (0 : Int32)), (9, .int (-9 : Int32)), (8, .int (0 : Int32)), (7, .ref (ad (zaO 1))), (6, .int r_10), (0, .ref (ad 0)), (1, .int x1), (2, .int x2), (3, .int x3), (4, .int x4), (5, .int x5)]) hx hb dX6_shift_93 hl (by decide) rfl (fun ls hl => ?_)
              have loop95 : ∀ (n : Nat) (v5 : Int32) (v8 : Int32) (v9 : Int32) (v10 : Int32) (I : zxI) (H : Heap) (locs : List Loc) (ls : Array Slot), fX6_shift_L95 n v5 v8 v9 v10 I = some (r, J) → zxAt D shX ad cA I s sz H locs → lv_has ls 12 [(0, .ref (ad 0)), (5, .int v5), (7, .ref (ad (zaO 1))), (8, .int v8), (9, .int v9), (10, .int v10)] → W p l e (headSpec wsX6_shift { frames := 5, cells := 0, slots := 0, locals := 111 }).room s m args below meth c H locs 0 0 (MQ below (va_Qi (fun (r2 : Int32) (I2 : zxI) => r2 = r ∧ I2 = J) (zxPost D shX ad cA sz) (zxA shX ad sz)) args s 0 0 (zxA shX ad sz)) (F0 m 95 ls []) := by
                intro n
                induction n with
                | zero =>
                  intro v5 v8 v9 v10 I H locs ls hf hG hl
                  rw [fX6_shift_L95] at hf
                  cases hf
                | succ n95 ih95 =>
                  intro v5 v8 v9 v10 I H locs ls hf hG hl
                  rw [fX6_shift_L95] at hf
                  refine lv_iload hx hb dX6_shift_95 (lv_at hl 5 rfl) ?_
                  refine lv_aload_n hx hb dX6_shift_97 rfl (lv_at hl 0 rfl) ?_
                  refine zx_getR (d := 35) hx hb hts hiX6 hown hG shX_0 vc_6 4 (by decide) rfl L5 dX6_shift_98 ?_
                  refine zx_getI hx hb hts hiX1 hown hG shX_35 vc_1 0 (by decide) rfl L6 dX6_shift_101 ?_
                  refine lv_icmp_ge (tgt := 174) hx hb dX6_shift_104 (by decide) (fun c_14 => ?_) (fun c_14 => ?_)
                  · have hf := zx_pos c_14 hf
                    refine lv_iload hx hb dX6_shift_174 (lv_at hl 1 rfl) ?_
                    by_cases c_15 : v5 = (0 : Int32)
                    · have hf := zx_pos c_15 hf
                      refine lv_tableIn (off := 32) (tgt := 208) hx hb dX6_shift_176 (by rw [c_15]; decide) (by rw [c_15]; decide) (by rw [c_15]; decide) (by decide) ?_
                      refine lv_iload hx hb dX6_shift_208 (lv_at hl 3 rfl) ?_
                      obtain ⟨r_19, I_19, h_19, hf⟩ := zx_b hf
                      refine zx_calli (va_runS (As := [.int v8]) (rest := []) ⟨hx, hb, hml, hown, hts⟩ (mJ6_bitCount_0f7a4 l D ad cA v8 I r_19 I_19 h_19 _) (va_cwS 1 hts gX6_shift_J6_bitCount_0f7a4 rfl rfl rfl hd_J6_bitCount_0f7a4 ⟨Nat.le_of_ble_eq_true rfl, Nat.le_of_ble_eq_true rfl⟩) (zx_preS hG) rfl rfl hl.1 rfl (lv_room (Nat.le_of_ble_eq_true rfl)) dX6_shift_210 ⟨Nat.le_refl _, Nat.le_refl _⟩) hG (fun H locs hG => ?_)
                      exact zx_iret hx hb hr hlocks rfl hG hf dX6_shift_213
                    have hf := zx_neg c_15 hf
                    by_cases c_16 : v5 = (1 : Int32)
                    · have hf := zx_pos c_16 hf
                      refine lv_tableIn (off := 38) (tgt := 214) hx hb dX6_shift_176 (by rw [c_16]; decide) (by rw [c_16]; decide) (by rw [c_16]; decide) (by decide) ?_
                      refine lv_iload hx hb dX6_shift_214 (lv_at hl 4 rfl) ?_
                      exact zx_iret hx hb hr hlocks rfl hG hf dX6_shift_216
                    have hf := zx_neg c_16 hf
                    by_cases c_17 : v5 = (2 : Int32)
                    · have hf := zx_pos c_17 hf
                      refine lv_tableIn (off := 41) (tgt := 217) hx hb dX6_shift_176 (by rw [c_17]; decide) (by rw [c_17]; decide) (by rw [c_17]; decide) (by decide) ?_
                      refine lv_aload hx hb dX6_shift_217 (lv_at hl 2 rfl) ?_
                      refine zx_getI hx hb hts hiX0 hown hG (shX_aO (by decide : 1 < 8)) vc_0 1 (by decide) rfl L7 dX6_shift_219 ?_
                      exact zx_iret hx hb hr hlocks rfl hG hf dX6_shift_222
                    have hf := zx_neg c_17 hf
                    by_cases c_18 : v5 = (3 : Int32)
                    · have hf := zx_pos c_18 hf
                      refine lv_tableIn (off := 47) (tgt := 223) hx hb dX6_shift_176 (by rw [c_18]; decide) (by rw [c_18]; decide) (by rw [c_18]; decide) (by decide) ?_
                      refine lv_aload_n hx hb dX6_shift_223 rfl (lv_at hl 0 rfl) ?_
                      refine lv_aload hx hb dX6_shift_224 (lv_at hl 2 rfl) ?_
                      obtain ⟨r_20, I_20, h_20, hf⟩ := zx_b hf
                      refine zx_calli (va_runV (As := [.ref (ad (zaO 1))]) (rest := []) ⟨hx, hb, hml, hown, hts⟩ (mX6_foulTogether l D ad cA 1 (by decide : 1 < 8) I r_20 I_20 h_20 _) (cwV 1 hts gX6_shift_X6_foulTogether rfl rfl rfl hd_X6_foulTogether ⟨Nat.le_of_ble_eq_true rfl, Nat.le_of_ble_eq_true rfl⟩) (zx_preV hG shX_0 vc_6) rfl rfl hl.1 rfl (lv_room (Nat.le_of_ble_eq_true rfl)) dX6_shift_226 ⟨Nat.le_refl _, Nat.le_refl _⟩) hG (fun H locs hG => ?_)
                      exact zx_iret hx hb hr hlocks rfl hG hf dX6_shift_229
                    have hf := zx_neg c_18 hf
                    refine lv_tableOut (tgt := 230) hx hb dX6_shift_176 (zx_tabOut 3 (by decide) (fun k hk => by rcases (show k = 0 ∨ k = 1 ∨ k = 2 ∨ k = 3 by omega) with rfl | rfl | rfl | rfl <;> assumption)) (by decide) ?_
                    refine lv_aload_n hx hb dX6_shift_230 rfl (lv_at hl 0 rfl) ?_
                    refine lv_iload hx hb dX6_shift_231 (lv_at hl 1 rfl) ?_
                    refine lv_bipush (v := (10 : Int32)) hx hb dX6_shift_233 (by decide) ?_
                    refine lv_isub hx hb dX6_shift_235 ?_
                    obtain ⟨r_21, I_21, h_21, hf⟩ := zx_b hf
                    refine zx_calli (va_runV (As := [.int (v5 - (10 : Int32))]) (rest := []) ⟨hx, hb, hml, hown, hts⟩ (mX6_isGallery l D ad cA (v5 - (10 : Int32)) I r_21 I_21 h_21 _) (cwV 1 hts gX6_shift_X6_isGallery rfl rfl rfl hd_X6_isGallery ⟨Nat.le_of_ble_eq_true rfl, Nat.le_of_ble_eq_true rfl⟩) (zx_preV hG shX_0 vc_6) rfl rfl hl.1 rfl (lv_room (Nat.le_of_ble_eq_true rfl)) dX6_shift_236 ⟨Nat.le_refl _, Nat.le_refl _⟩) hG (fun H locs hG => ?_)
                    refine lv_if_eq (tgt := 256) hx hb dX6_shift_239 (by decide) (fun c_22 => ?_) (fun c_22 => ?_)
                    · have hf := zx_pos c_22 hf
                      refine lv_bipush (v := (-9 : Int32)) hx hb dX6_shift_256 (by decide) ?_
                      exact zx_iret hx hb hr hlocks rfl hG hf dX6_shift_258
                    · have hf := zx_neg c_22 hf
                      refine lv_aload hx hb dX6_shift_242 (lv_at hl 2 rfl) ?_
                      refine zx_getR (d := (zaF 1)) hx hb hts hiX0 hown hG (shX_aO (by decide : 1 < 8)) vc_0 0 (by decide) rfl L8 dX6_shift_244 ?_
                      refine lv_iload hx hb dX6_shift_247 (lv_at hl 1 rfl) ?_
                      refine lv_bipush (v := (10 : Int32)) hx hb dX6_shift_249 (by decide) ?_
                      refine lv_isub hx hb dX6_shift_251 ?_
                      obtain ⟨g_23, hf⟩ := zx_in hf
                      refine zx_ald hx hb hG (shX_aF (by decide : 1 < 8)) g_23 dX6_shift_252 ?_
                      refine lv_goto (tgt := 258) hx hb dX6_shift_253 (by decide) ?_
                      exact zx_iret hx hb hr hlocks rfl hG hf dX6_shift_258
                  · have hf := zx_neg c_14 hf
                    refine lv_aload_n hx hb dX6_shift_107 rfl (lv_at hl 0 rfl) ?_
                    refine zx_getR (d := 10) hx hb hts hiX6 hown hG shX_0 vc_6 1 (by decide) rfl L9 dX6_shift_108 ?_
                    refine lv_aload hx hb dX6_shift_111 (lv_at hl 2 rfl) ?_
                    refine lv_aload_n hx hb dX6_shift_113 rfl (lv_at hl 0 rfl) ?_
                    refine zx_getR (d := 10) hx hb hts hiX6 hown hG shX_0 vc_6 1 (by decide) rfl L9 dX6_shift_114 ?_
                    refine zx_getI hx hb hts hiX2 hown hG shX_10 vc_2 5 (by decide) rfl L10 dX6_shift_117 ?_
                    refine lv_aload_n hx hb dX6_shift_120 rfl (lv_at hl 0 rfl) ?_
                    refine zx_getR (d := 35) hx hb hts hiX6 hown hG shX_0 vc_6 4 (by decide) rfl L5 dX6_shift_121 ?_
                    refine zx_getR (d := 36) hx hb hts hiX1 hown hG shX_35 vc_1 1 (by decide) rfl L11 dX6_shift_124 ?_
                    refine lv_iload hx hb dX6_shift_127 (lv_at hl 5 rfl) ?_
                    obtain ⟨g_24, hf⟩ := zx_in hf
                    refine zx_ald hx hb hG shX_36 g_24 dX6_shift_129 ?_
                    refine lv_aload_n hx hb dX6_shift_130 rfl (lv_at hl 0 rfl) ?_
                    refine zx_getR (d := 35) hx hb hts hiX6 hown hG shX_0 vc_6 4 (by decide) rfl L5 dX6_shift_131 ?_
                    refine zx_getR (d := 37) hx hb hts hiX1 hown hG shX_35 vc_1 2 (by decide) rfl L12 dX6_shift_134 ?_
                    refine lv_iload hx hb dX6_shift_137 (lv_at hl 5 rfl) ?_
                    refine zx_ald hx hb hG shX_37 g_24 dX6_shift_139 ?_
                    obtain ⟨r_26, I_26, h_26, hf⟩ := zx_b hf
                    refine zx_calli (va_runV (As := [.ref (ad (zaO 1)), .int (I 10 5), .int (I 36 v10.toNatClampNeg), .int (I 37 v10.toNatClampNeg)]) (rest := []) ⟨hx, hb, hml, hown, hts⟩ (mX2_breathe l D ad cA 1 (by decide : 1 < 8) (I 10 5) (I 36 v10.toNatClampNeg) (I 37 v10.toNatClampNeg) I r_26 I_26 h_26 _) (cwV 4 hts gX6_shift_X2_breathe rfl rfl rfl hd_X2_breathe ⟨Nat.le_of_ble_eq_true rfl, Nat.le_of_ble_eq_true rfl⟩) (zx_preV hG shX_10 vc_2) rfl rfl hl.1 rfl (lv_room (Nat.le_of_ble_eq_true rfl)) dX6_shift_140 ⟨Nat.le_refl _, Nat.le_refl _⟩) hG (fun H locs hG => ?_)
                    refine lv_istore (lv' := [(11, .int r_26), (0, .ref (ad 0)), (5, .int v5), (7, .ref (ad (zaO 1))), (8, .int v8), (9, .int v9), (10, .int v10)]) hx hb dX6_shift_143 hl (by decide) rfl (fun ls hl => ?_)
                    refine lv_iload hx hb dX6_shift_145 (lv_at hl 0 rfl) ?_
                    refine lv_if_eq (tgt := 161) hx hb dX6_shift_147 (by decide) (fun c_27 => ?_) (fun c_27 => ?_)
                    · have hf := zx_pos c_27 hf
                      refine lv_iload hx hb dX6_shift_161 (lv_at hl 4 rfl) ?_
                      refine lv_iload hx hb dX6_shift_163 (lv_at hl 0 rfl) ?_
                      refine lv_ior hx hb dX6_shift_165 ?_
                      refine lv_istore (lv' := [(8, .int (v8 ||| r_26)), (11, .int r_26), (0, .ref (ad 0)), (5, .int v5), (7, .ref (ad (zaO 1))), (9, .int v9), (10, .int v10)]) hx hb dX6_shift_166 hl (by decide) rfl (fun ls hl => ?_)
                      refine lv_iinc (v := (v10 + (1 : Int32))) (lv' := [(10, .int (v10 + (1 : Int32))), (8, .int (v8 ||| r_26)), (11, .int r_26), (0, .ref (ad 0)), (5, .int v5), (7, .ref (ad (zaO 1))), (9, .int v9)]) hx hb dX6_shift_168 hl (k := 6) rfl (congrArg (HAdd.hAdd v10) (by decide)) (by decide) rfl (fun ls hl => ?_)
                      refine lv_goto (tgt := 95) hx hb dX6_shift_171 (by decide) ?_
                      exact ih95 v5 (v8 ||| r_26) v9 (v10 + (1 : Int32)) I_26 _ _ ls hf hG (lv_sub hl [3, 4, 5, 1, 6, 0] rfl)
                    · have hf := zx_neg c_27 hf
                      refine lv_iload hx hb dX6_shift_150 (lv_at hl 5 rfl) ?_
                      refine lv_bipush (v := (-9 : Int32)) hx hb dX6_shift_152 (by decide) ?_
                      refine lv_icmp_ne (tgt := 161) hx hb dX6_shift_154 (by decide) (fun c_28 => ?_) (fun c_28 => ?_)
                      · have hf := zx_neg c_28 hf
                        refine lv_iload hx hb dX6_shift_161 (lv_at hl 4 rfl) ?_
                        refine lv_iload hx hb dX6_shift_163 (lv_at hl 0 rfl) ?_
                        refine lv_ior hx hb dX6_shift_165 ?_
                        refine lv_istore (lv' := [(8, .int (v8 ||| r_26)), (11, .int r_26), (0, .ref (ad 0)), (5, .int v5), (7, .ref (ad (zaO 1))), (9, .int v9), (10, .int v10)]) hx hb dX6_shift_166 hl (by decide) rfl (fun ls hl => ?_)
                        refine lv_iinc (v := (v10 + (1 : Int32))) (lv' := [(10, .int (v10 + (1 : Int32))), (8, .int (v8 ||| r_26)), (11, .int r_26), (0, .ref (ad 0)), (5, .int v5), (7, .ref (ad (zaO 1))), (9, .int v9)]) hx hb dX6_shift_168 hl (k := 6) rfl (congrArg (HAdd.hAdd v10) (by decide)) (by decide) rfl (fun ls hl => ?_)
                        refine lv_goto (tgt := 95) hx hb dX6_shift_171 (by decide) ?_
                        exact ih95 v5 (v8 ||| r_26) v9 (v10 + (1 : Int32)) I_26 _ _ ls hf hG (lv_sub hl [3, 4, 5, 1, 6, 0] rfl)
                      · have hf := zx_pos c_28 hf
                        refine lv_iload hx hb dX6_shift_157 (lv_at hl 6 rfl) ?_
                        refine lv_istore (lv' := [(9, .int v10), (11, .int r_26), (0, .ref (ad 0)), (5, .int v5), (7, .ref (ad (zaO 1))), (8, .int v8), (10, .int v10)]) hx hb dX6_shift_159 hl (by decide) rfl (fun ls hl => ?_)
                        refine lv_iload hx hb dX6_shift_161 (lv_at hl 5 rfl) ?_
                        refine lv_iload hx hb dX6_shift_163 (lv_at hl 1 rfl) ?_
                        refine lv_ior hx hb dX6_shift_165 ?_
                        refine lv_istore (lv' := [(8, .int (v8 ||| r_26)), (9, .int v10), (11, .int r_26), (0, .ref (ad 0)), (5, .int v5), (7, .ref (ad (zaO 1))), (10, .int v10)]) hx hb dX6_shift_166 hl (by decide) rfl (fun ls hl => ?_)
                        refine lv_iinc (v := (v10 + (1 : Int32))) (lv' := [(10, .int (v10 + (1 : Int32))), (8, .int (v8 ||| r_26)), (9, .int v10), (11, .int r_26), (0, .ref (ad 0)), (5, .int v5), (7, .ref (ad (zaO 1)))]) hx hb dX6_shift_168 hl (k := 6) rfl (congrArg (HAdd.hAdd v10) (by decide)) (by decide) rfl (fun ls hl => ?_)
                        refine lv_goto (tgt := 95) hx hb dX6_shift_171 (by decide) ?_
                        exact ih95 v5 (v8 ||| r_26) v10 (v10 + (1 : Int32)) I_26 _ _ ls hf hG (lv_sub hl [4, 5, 6, 1, 2, 0] rfl)
              exact loop95 _ x5 (0 : Int32) (-9 : Int32) (0 : Int32) I_13 _ _ ls hf hG (lv_sub hl [5, 10, 3, 2, 1, 0] rfl)
            · have hf := zx_neg c_11 hf
              refine lv_iload hx hb dX6_shift_65 (lv_at hl 0 rfl) ?_
              exact zx_iret hx hb hr hlocks rfl hG hf dX6_shift_67
          · have hf := zx_pos c_8 hf
            refine lv_bipush (v := (-2 : Int32)) hx hb dX6_shift_41 (by decide) ?_
            exact zx_iret hx hb hr hlocks rfl hG hf dX6_shift_43
  · have hf := zx_pos c_2 hf
    refine lv_iconst (v := (-1 : Int32)) hx hb dX6_shift_12 (by decide) ?_
    exact zx_iret hx hb hr hlocks rfl hG hf dX6_shift_13

set_option maxHeartbeats 4000000 in
set_option maxRecDepth 100000 in
theorem mX6_endsOrder (l : Launch) (D : va_G) (ad : Nat → Nat) (cA : Nat → ClassId) : ∀ (d : Nat) (x4 : Int32) (x5 : Int32) (I : zxI) (r : Int32) (J : zxI), fX6_endsOrder d x4 x5 I = some (r, J) → ∀ (sz : Nat), Met l yX6_endsOrder wsX6_endsOrder { frames := 5 + d, cells := 0, slots := 0, locals := 111 + d * 60 } (va_Pc [.ref (ad 10), .ref (ad 35), .ref (ad 30), .ref (ad 38), .int x4, .int x5] (zxPre D shX ad cA I sz)) (va_Qi (fun (r2 : Int32) (I2 : zxI) => r2 = r ∧ I2 = J) (zxPost D shX ad cA sz) (zxA shX ad sz)) 0 0 (zxA shX ad sz) := by
  intro d
  induction d with
  | zero =>
    intro x4 x5 I r J hf
    rw [fX6_endsOrder] at hf
    cases hf
  | succ d ihd =>
  intro x4 x5 I r J hf sz
  refine zx_start (by decide) rfl (Nat.le_of_ble_eq_true rfl) ?_
  intro p e s m args below meth c ls hx hb hr hts hown hlocks hml hG hl
  have hl : lv_has ls 8 [(0, .ref (ad 10)), (1, .ref (ad 35)), (2, .ref (ad 30)), (3, .ref (ad 38)), (4, .int x4), (5, .int x5)] := hl
  have hiX1 : ∀ w ∈ wsX10, w ∈ wsX6_endsOrder := fun w h => List.mem_cons_of_mem _ (List.mem_append_left _ (List.mem_append_left _ (List.mem_append_right _ h)))
  have hiX2 : ∀ w ∈ wsX20, w ∈ wsX6_endsOrder := fun w h => List.mem_cons_of_mem _ (List.mem_append_left _ (List.mem_append_right _ h))
  have L1 := hts (Cond.fieldLink RX6 164 "GalleryBirds$Pairs" "count" "I") (List.mem_of_getElem? (i := 1) rfl)
  have L2 := hts (Cond.fieldLink RX6 121 "GalleryBirds$Pit" "doors" "I") (List.mem_of_getElem? (i := 2) rfl)
  have L3 := hts (Cond.fieldLink RX6 167 "GalleryBirds$Pairs" "galleries" "[I") (List.mem_of_getElem? (i := 3) rfl)
  have L4 := hts (Cond.fieldLink RX6 169 "GalleryBirds$Pairs" "words" "[I") (List.mem_of_getElem? (i := 4) rfl)
  rw [fX6_endsOrder] at hf
  refine lv_iload hx hb dX6_endsOrder_0 (lv_at hl 4 rfl) ?_
  refine lv_aload_n hx hb dX6_endsOrder_2 rfl (lv_at hl 1 rfl) ?_
  refine zx_getI hx hb hts hiX1 hown hG shX_35 vc_1 0 (by decide) rfl L1 dX6_endsOrder_3 ?_
  refine lv_icmp_ge (tgt := 16) hx hb dX6_endsOrder_6 (by decide) (fun c_1 => ?_) (fun c_1 => ?_)
  · have hf := zx_pos c_1 hf
    refine lv_iconst (v := (1 : Int32)) hx hb dX6_endsOrder_16 (by decide) ?_
    exact zx_iret hx hb hr hlocks rfl hG hf dX6_endsOrder_17
  · have hf := zx_neg c_1 hf
    refine lv_iload hx hb dX6_endsOrder_9 (lv_at hl 4 rfl) ?_
    refine lv_bipush (v := (6 : Int32)) hx hb dX6_endsOrder_11 (by decide) ?_
    refine lv_icmp_lt (tgt := 18) hx hb dX6_endsOrder_13 (by decide) (fun c_2 => ?_) (fun c_2 => ?_)
    · have hf := zx_pos c_2 hf
      refine lv_iconst (v := (0 : Int32)) hx hb dX6_endsOrder_18 (by decide) ?_
      refine lv_istore (lv' := [(6, .int (0 : Int32)), (0, .ref (ad 10)), (1, .ref (ad 35)), (2, .ref (ad 30)), (3, .ref (ad 38)), (4, .int x4), (5, .int x5)]) hx hb dX6_endsOrder_19 hl (by decide) rfl (fun ls hl => ?_)
      have loop21 : ∀ (n : Nat) (v4 : Int32) (v5 : Int32) (v6 : Int32) (I : zxI) (H : Heap) (locs : List Loc) (ls : Array Slot), fX6_endsOrder_L21 (fun x4 x5 I => fX6_endsOrder d x4 x5 I) n v4 v5 v6 I = some (r, J) → zxAt D shX ad cA I s sz H locs → lv_has ls 8 [(0, .ref (ad 10)), (1, .ref (ad 35)), (2, .ref (ad 30)), (3, .ref (ad 38)), (4, .int v4), (5, .int v5), (6, .int v6)] → W p l e (headSpec wsX6_endsOrder { frames := 5 + (d + 1), cells := 0, slots := 0, locals := 111 + (d + 1) * 60 }).room s m args below meth c H locs 0 0 (MQ below (va_Qi (fun (r2 : Int32) (I2 : zxI) => r2 = r ∧ I2 = J) (zxPost D shX ad cA sz) (zxA shX ad sz)) args s 0 0 (zxA shX ad sz)) (F0 m 21 ls []) := by
        intro n
        induction n with
        | zero =>
          intro v4 v5 v6 I H locs ls hf hG hl
          rw [fX6_endsOrder_L21] at hf
          cases hf
        | succ n21 ih21 =>
          intro v4 v5 v6 I H locs ls hf hG hl
          rw [fX6_endsOrder_L21] at hf
          refine lv_iload hx hb dX6_endsOrder_21 (lv_at hl 6 rfl) ?_
          refine lv_aload_n hx hb dX6_endsOrder_23 rfl (lv_at hl 1 rfl) ?_
          refine zx_getI hx hb hts hiX1 hown hG shX_35 vc_1 0 (by decide) rfl L1 dX6_endsOrder_24 ?_
          refine lv_icmp_ge (tgt := 119) hx hb dX6_endsOrder_27 (by decide) (fun c_3 => ?_) (fun c_3 => ?_)
          · have hf := zx_pos c_3 hf
            refine lv_iconst (v := (0 : Int32)) hx hb dX6_endsOrder_119 (by decide) ?_
            exact zx_iret hx hb hr hlocks rfl hG hf dX6_endsOrder_120
          · have hf := zx_neg c_3 hf
            refine lv_iload hx hb dX6_endsOrder_30 (lv_at hl 5 rfl) ?_
            refine lv_iload hx hb dX6_endsOrder_32 (lv_at hl 6 rfl) ?_
            refine lv_ishr hx hb dX6_endsOrder_34 ?_
            refine lv_iconst (v := (1 : Int32)) hx hb dX6_endsOrder_35 (by decide) ?_
            refine lv_iand hx hb dX6_endsOrder_36 ?_
            refine lv_if_ne (tgt := 113) hx hb dX6_endsOrder_37 (by decide) (fun c_4 => ?_) (fun c_4 => ?_)
            · have hf := zx_neg c_4 hf
              refine lv_iinc (v := (v6 + (1 : Int32))) (lv' := [(6, .int (v6 + (1 : Int32))), (0, .ref (ad 10)), (1, .ref (ad 35)), (2, .ref (ad 30)), (3, .ref (ad 38)), (4, .int v4), (5, .int v5)]) hx hb dX6_endsOrder_113 hl (k := 6) rfl (congrArg (HAdd.hAdd v6) (by decide)) (by decide) rfl (fun ls hl => ?_)
              refine lv_goto (tgt := 21) hx hb dX6_endsOrder_116 (by decide) ?_
              exact ih21 v4 v5 (v6 + (1 : Int32)) I _ _ ls hf hG (lv_sub hl [1, 2, 3, 4, 5, 6, 0] rfl)
            · have hf := zx_pos c_4 hf
              refine lv_aload_n hx hb dX6_endsOrder_40 rfl (lv_at hl 2 rfl) ?_
              refine lv_iload hx hb dX6_endsOrder_41 (lv_at hl 4 rfl) ?_
              refine lv_iconst (v := (1 : Int32)) hx hb dX6_endsOrder_43 (by decide) ?_
              refine lv_iadd hx hb dX6_endsOrder_44 ?_
              obtain ⟨g_5, hf⟩ := zx_in hf
              refine zx_aldR (d := (zaO ((v4 + (1 : Int32)).toNatClampNeg + 1))) (t := 2) hx hb hG shX_30 rfl g_5 (shX_ra (zx_lt g_5)) dX6_endsOrder_45 ?_
              refine lv_astore (lv' := [(7, .ref (ad (zaO ((v4 + (1 : Int32)).toNatClampNeg + 1)))), (0, .ref (ad 10)), (1, .ref (ad 35)), (2, .ref (ad 30)), (3, .ref (ad 38)), (4, .int v4), (5, .int v5), (6, .int v6)]) hx hb dX6_endsOrder_46 hl (by decide) rfl (fun ls hl => ?_)
              refine lv_aload hx hb dX6_endsOrder_48 (lv_at hl 0 rfl) ?_
              refine lv_aload_n hx hb dX6_endsOrder_50 rfl (lv_at hl 3 rfl) ?_
              refine lv_iload hx hb dX6_endsOrder_51 (lv_at hl 5 rfl) ?_
              obtain ⟨g_6, hf⟩ := zx_in hf
              refine zx_aldR (d := (zaO (v4.toNatClampNeg + 1))) (t := 2) hx hb hG shX_30 rfl g_6 (shX_ra (zx_lt g_6)) dX6_endsOrder_53 ?_
              obtain ⟨I_7, h_7, hf⟩ := zx_v hf
              refine zx_callv (va_runV (As := [.ref (ad (zaO (v4.toNatClampNeg + 1)))]) (rest := []) ⟨hx, hb, hml, hown, hts⟩ (mX0_becomeLike l D ad cA ((v4 + (1 : Int32)).toNatClampNeg + 1) (v4.toNatClampNeg + 1) (Nat.succ_lt_succ (zx_lt g_5)) (Nat.succ_lt_succ (zx_lt g_6)) I I_7 h_7 _) (cwV 1 hts gX6_endsOrder_X0_becomeLike rfl rfl rfl hd_X0_becomeLike ⟨by show 1 + 1 ≤ 5 + (d + 1); omega, by show 8 + (2 + 11) + (60) ≤ 111 + (d + 1) * 60; omega⟩) (zx_preV hG (shX_aO (Nat.succ_lt_succ (zx_lt g_5))) vc_0) rfl rfl hl.1 rfl (lv_room (Nat.le_of_ble_eq_true rfl)) dX6_endsOrder_54 ⟨Nat.le_refl _, Nat.le_refl _⟩) hG (fun H locs hG => ?_)
              refine lv_aload_n hx hb dX6_endsOrder_57 rfl (lv_at hl 4 rfl) ?_
              refine lv_iload hx hb dX6_endsOrder_58 (lv_at hl 5 rfl) ?_
              refine lv_iload hx hb dX6_endsOrder_60 (lv_at hl 7 rfl) ?_
              obtain ⟨g_8, hf⟩ := zx_in hf
              refine zx_ast hx hb hG shX_38 g_8 dX6_endsOrder_62 (fun H locs hG => ?_)
              refine lv_aload_n hx hb dX6_endsOrder_63 rfl (lv_at hl 1 rfl) ?_
              refine lv_aload hx hb dX6_endsOrder_64 (lv_at hl 0 rfl) ?_
              refine lv_aload_n hx hb dX6_endsOrder_66 rfl (lv_at hl 1 rfl) ?_
              refine zx_getI hx hb hts hiX2 hown hG shX_10 vc_2 5 (by decide) rfl L2 dX6_endsOrder_67 ?_
              refine lv_aload_n hx hb dX6_endsOrder_70 rfl (lv_at hl 2 rfl) ?_
              refine zx_getR (d := 36) hx hb hts hiX1 hown hG shX_35 vc_1 1 (by decide) rfl L3 dX6_endsOrder_71 ?_
              refine lv_iload hx hb dX6_endsOrder_74 (lv_at hl 7 rfl) ?_
              obtain ⟨g_9, hf⟩ := zx_in hf
              refine zx_ald hx hb hG shX_36 g_9 dX6_endsOrder_76 ?_
              refine lv_aload_n hx hb dX6_endsOrder_77 rfl (lv_at hl 2 rfl) ?_
              refine zx_getR (d := 37) hx hb hts hiX1 hown hG shX_35 vc_1 2 (by decide) rfl L4 dX6_endsOrder_78 ?_
              refine lv_iload hx hb dX6_endsOrder_81 (lv_at hl 7 rfl) ?_
              refine zx_ald hx hb hG shX_37 g_9 dX6_endsOrder_83 ?_
              obtain ⟨r_11, I_11, h_11, hf⟩ := zx_b hf
              refine zx_calli (va_runV (As := [.ref (ad (zaO ((v4 + (1 : Int32)).toNatClampNeg + 1))), .int ((zxU I_7 38 v4.toNatClampNeg v6) 10 5), .int ((zxU I_7 38 v4.toNatClampNeg v6) 36 v6.toNatClampNeg), .int ((zxU I_7 38 v4.toNatClampNeg v6) 37 v6.toNatClampNeg)]) (rest := []) ⟨hx, hb, hml, hown, hts⟩ (mX2_breathe l D ad cA ((v4 + (1 : Int32)).toNatClampNeg + 1) (Nat.succ_lt_succ (zx_lt g_5)) ((zxU I_7 38 v4.toNatClampNeg v6) 10 5) ((zxU I_7 38 v4.toNatClampNeg v6) 36 v6.toNatClampNeg) ((zxU I_7 38 v4.toNatClampNeg v6) 37 v6.toNatClampNeg) (zxU I_7 38 v4.toNatClampNeg v6) r_11 I_11 h_11 _) (cwV 4 hts gX6_endsOrder_X2_breathe rfl rfl rfl hd_X2_breathe ⟨by show 4 + 1 ≤ 5 + (d + 1); omega, by show 8 + (5 + 11) + (87) ≤ 111 + (d + 1) * 60; omega⟩) (zx_preV hG shX_10 vc_2) rfl rfl hl.1 rfl (lv_room (Nat.le_of_ble_eq_true rfl)) dX6_endsOrder_84 ⟨Nat.le_refl _, Nat.le_refl _⟩) hG (fun H locs hG => ?_)
              refine lv_if_ne (tgt := 113) hx hb dX6_endsOrder_87 (by decide) (fun c_12 => ?_) (fun c_12 => ?_)
              · have hf := zx_neg c_12 hf
                refine lv_iinc (v := (v6 + (1 : Int32))) (lv' := [(6, .int (v6 + (1 : Int32))), (7, .ref (ad (zaO ((v4 + (1 : Int32)).toNatClampNeg + 1)))), (0, .ref (ad 10)), (1, .ref (ad 35)), (2, .ref (ad 30)), (3, .ref (ad 38)), (4, .int v4), (5, .int v5)]) hx hb dX6_endsOrder_113 hl (k := 7) rfl (congrArg (HAdd.hAdd v6) (by decide)) (by decide) rfl (fun ls hl => ?_)
                refine lv_goto (tgt := 21) hx hb dX6_endsOrder_116 (by decide) ?_
                exact ih21 v4 v5 (v6 + (1 : Int32)) I_11 _ _ ls hf hG (lv_sub hl [2, 3, 4, 5, 6, 7, 0] rfl)
              · have hf := zx_pos c_12 hf
                refine lv_aload_n hx hb dX6_endsOrder_90 rfl (lv_at hl 1 rfl) ?_
                refine lv_aload_n hx hb dX6_endsOrder_91 rfl (lv_at hl 2 rfl) ?_
                refine lv_aload_n hx hb dX6_endsOrder_92 rfl (lv_at hl 3 rfl) ?_
                refine lv_aload_n hx hb dX6_endsOrder_93 rfl (lv_at hl 4 rfl) ?_
                refine lv_iload hx hb dX6_endsOrder_94 (lv_at hl 5 rfl) ?_
                refine lv_iconst (v := (1 : Int32)) hx hb dX6_endsOrder_96 (by decide) ?_
                refine lv_iadd hx hb dX6_endsOrder_97 ?_
                refine lv_iload hx hb dX6_endsOrder_98 (lv_at hl 6 rfl) ?_
                refine lv_iconst (v := (1 : Int32)) hx hb dX6_endsOrder_100 (by decide) ?_
                refine lv_iload hx hb dX6_endsOrder_101 (lv_at hl 7 rfl) ?_
                refine lv_ishl hx hb dX6_endsOrder_103 ?_
                refine lv_ior hx hb dX6_endsOrder_104 ?_
                obtain ⟨r_13, I_13, h_13, hf⟩ := zx_b hf
                refine zx_calli (va_runS (As := [.ref (ad 10), .ref (ad 35), .ref (ad 30), .ref (ad 38), .int (v4 + (1 : Int32)), .int (v5 ||| ((1 : Int32) <<< (v6 &&& 31)))]) (rest := []) ⟨hx, hb, hml, hown, hts⟩ (ihd (v4 + (1 : Int32)) (v5 ||| ((1 : Int32) <<< (v6 &&& 31))) I_11 r_13 I_13 h_13 _) (va_cwS 6 hts gX6_endsOrder_X6_endsOrder rfl rfl rfl hd_X6_endsOrder ⟨by show 5 + d + 1 ≤ 5 + (d + 1); omega, by show 8 + (8 + 11) + (111 + d * 60) ≤ 111 + (d + 1) * 60; omega⟩) (zx_preS hG) rfl rfl hl.1 rfl (lv_room (Nat.le_of_ble_eq_true rfl)) dX6_endsOrder_105 ⟨Nat.le_refl _, Nat.le_refl _⟩) hG (fun H locs hG => ?_)
                refine lv_if_eq (tgt := 113) hx hb dX6_endsOrder_108 (by decide) (fun c_14 => ?_) (fun c_14 => ?_)
                · have hf := zx_pos c_14 hf
                  refine lv_iinc (v := (v6 + (1 : Int32))) (lv' := [(6, .int (v6 + (1 : Int32))), (7, .ref (ad (zaO ((v4 + (1 : Int32)).toNatClampNeg + 1)))), (0, .ref (ad 10)), (1, .ref (ad 35)), (2, .ref (ad 30)), (3, .ref (ad 38)), (4, .int v4), (5, .int v5)]) hx hb dX6_endsOrder_113 hl (k := 7) rfl (congrArg (HAdd.hAdd v6) (by decide)) (by decide) rfl (fun ls hl => ?_)
                  refine lv_goto (tgt := 21) hx hb dX6_endsOrder_116 (by decide) ?_
                  exact ih21 v4 v5 (v6 + (1 : Int32)) I_13 _ _ ls hf hG (lv_sub hl [2, 3, 4, 5, 6, 7, 0] rfl)
                · have hf := zx_neg c_14 hf
                  refine lv_iconst (v := (1 : Int32)) hx hb dX6_endsOrder_111 (by decide) ?_
                  exact zx_iret hx hb hr hlocks rfl hG hf dX6_endsOrder_112
      exact loop21 _ x4 x5 (0 : Int32) I _ _ ls hf hG (lv_sub hl [1, 2, 3, 4, 5, 6, 0] rfl)
    · have hf := zx_neg c_2 hf
      refine lv_iconst (v := (1 : Int32)) hx hb dX6_endsOrder_16 (by decide) ?_
      exact zx_iret hx hb hr hlocks rfl hG hf dX6_endsOrder_17

set_option maxHeartbeats 4000000 in
set_option maxRecDepth 100000 in
theorem mX6_order (l : Launch) (D : va_G) (ad : Nat → Nat) (cA : Nat → ClassId) (x1 : Int32) (x2 : Int32) (x3 : Int32) (x4 : Int32) (x5 : Int32) (I : zxI) (r : Int32) (J : zxI) (hf : fX6_order x1 x2 x3 x4 x5 I = some (r, J)) (sz : Nat) : Met l yX6_order wsX6_order { frames := 26, cells := 0, slots := 0, locals := 1338 } (va_Pc [.ref (ad 0), .int x1, .int x2, .int x3, .int x4, .int x5] (zxPre D shX ad cA I sz)) (va_Qi (fun (r2 : Int32) (I2 : zxI) => r2 = r ∧ I2 = J) (zxPost D shX ad cA sz) (zxA shX ad sz)) 0 0 (zxA shX ad sz) := by
  refine zx_start (by decide) rfl (Nat.le_of_ble_eq_true rfl) ?_
  intro p e s m args below meth c ls hx hb hr hts hown hlocks hml hG hl
  have hl : lv_has ls 7 [(0, .ref (ad 0)), (1, .int x1), (2, .int x2), (3, .int x3), (4, .int x4), (5, .int x5)] := hl
  have hiX1 : ∀ w ∈ wsX10, w ∈ wsX6_order := fun w h => List.mem_cons_of_mem _ (List.mem_append_left _ (List.mem_append_left _ (List.mem_append_left _ (List.mem_append_right _ h))))
  have hiX6 : ∀ w ∈ wsX60, w ∈ wsX6_order := fun w h => List.mem_cons_of_mem _ (List.mem_append_left _ (List.mem_append_left _ (List.mem_append_left _ (List.mem_append_left _ (List.mem_append_right _ h)))))
  have L1 := hts (Cond.fieldLink RX6 67 "GalleryBirds" "lastFault" "I") (List.mem_of_getElem? (i := 1) rfl)
  have L2 := hts (Cond.fieldLink RX6 13 "GalleryBirds" "sheets" "[LGalleryBirds$Sheet;") (List.mem_of_getElem? (i := 2) rfl)
  have L3 := hts (Cond.fieldLink RX6 41 "GalleryBirds" "pairs" "LGalleryBirds$Pairs;") (List.mem_of_getElem? (i := 3) rfl)
  have L4 := hts (Cond.fieldLink RX6 164 "GalleryBirds$Pairs" "count" "I") (List.mem_of_getElem? (i := 4) rfl)
  have L5 := hts (Cond.fieldLink RX6 45 "GalleryBirds" "trials" "[LGalleryBirds$Air;") (List.mem_of_getElem? (i := 5) rfl)
  have L6 := hts (Cond.fieldLink RX6 27 "GalleryBirds" "air" "LGalleryBirds$Air;") (List.mem_of_getElem? (i := 6) rfl)
  have L7 := hts (Cond.fieldLink RX6 20 "GalleryBirds" "pit" "LGalleryBirds$Pit;") (List.mem_of_getElem? (i := 7) rfl)
  have L8 := hts (Cond.fieldLink RX6 49 "GalleryBirds" "orderRow" "[I") (List.mem_of_getElem? (i := 8) rfl)
  unfold fX6_order at hf
  refine lv_aload_n hx hb dX6_order_0 rfl (lv_at hl 0 rfl) ?_
  refine lv_iconst (v := (0 : Int32)) hx hb dX6_order_1 (by decide) ?_
  refine zx_putI hx hb hts hiX6 tyX6 tyX6_ok nmX6 hown hG shX_0 vc_6 10 (by decide) rfl L1 rfl (ty := .int) (tyX6_ok 10 (by decide)) rfl rfl dX6_order_2 (fun H locs hG => ?_)
  refine lv_iload_n hx hb dX6_order_5 rfl (lv_at hl 1 rfl) ?_
  obtain ⟨r_1, I_1, h_1, hf⟩ := zx_b hf
  refine zx_calli (va_runS (As := [.int x1]) (rest := []) ⟨hx, hb, hml, hown, hts⟩ (mX6_isSheet l D ad cA x1 (zxU I 0 10 (0 : Int32)) r_1 I_1 h_1 _) (va_cwS 1 hts gX6_order_X6_isSheet rfl rfl rfl hd_X6_isSheet ⟨Nat.le_of_ble_eq_true rfl, Nat.le_of_ble_eq_true rfl⟩) (zx_preS hG) rfl rfl hl.1 rfl (lv_room (Nat.le_of_ble_eq_true rfl)) dX6_order_6 ⟨Nat.le_refl _, Nat.le_refl _⟩) hG (fun H locs hG => ?_)
  refine lv_if_ne (tgt := 14) hx hb dX6_order_9 (by decide) (fun c_2 => ?_) (fun c_2 => ?_)
  · have hf := zx_neg c_2 hf
    refine lv_iload_n hx hb dX6_order_14 rfl (lv_at hl 2 rfl) ?_
    obtain ⟨r_3, I_3, h_3, hf⟩ := zx_b hf
    refine zx_calli (va_runS (As := [.int x2]) (rest := []) ⟨hx, hb, hml, hown, hts⟩ (mX6_isLane l D ad cA x2 I_1 r_3 I_3 h_3 _) (va_cwS 1 hts gX6_order_X6_isLane rfl rfl rfl hd_X6_isLane ⟨Nat.le_of_ble_eq_true rfl, Nat.le_of_ble_eq_true rfl⟩) (zx_preS hG) rfl rfl hl.1 rfl (lv_room (Nat.le_of_ble_eq_true rfl)) dX6_order_15 ⟨Nat.le_refl _, Nat.le_refl _⟩) hG (fun H locs hG => ?_)
    refine lv_if_eq (tgt := 45) hx hb dX6_order_18 (by decide) (fun c_4 => ?_) (fun c_4 => ?_)
    · have hf := zx_pos c_4 hf
      refine lv_bipush (v := (-2 : Int32)) hx hb dX6_order_45 (by decide) ?_
      exact zx_iret hx hb hr hlocks rfl hG hf dX6_order_47
    · have hf := zx_neg c_4 hf
      refine lv_iload hx hb dX6_order_21 (lv_at hl 4 rfl) ?_
      refine lv_if_lt (tgt := 45) hx hb dX6_order_23 (by decide) (fun c_5 => ?_) (fun c_5 => ?_)
      · have hf := zx_pos c_5 hf
        refine lv_bipush (v := (-2 : Int32)) hx hb dX6_order_45 (by decide) ?_
        exact zx_iret hx hb hr hlocks rfl hG hf dX6_order_47
      · have hf := zx_neg c_5 hf
        refine lv_iload hx hb dX6_order_26 (lv_at hl 4 rfl) ?_
        refine lv_bipush (v := (6 : Int32)) hx hb dX6_order_28 (by decide) ?_
        refine lv_icmp_gt (tgt := 45) hx hb dX6_order_30 (by decide) (fun c_6 => ?_) (fun c_6 => ?_)
        · have hf := zx_pos c_6 hf
          refine lv_bipush (v := (-2 : Int32)) hx hb dX6_order_45 (by decide) ?_
          exact zx_iret hx hb hr hlocks rfl hG hf dX6_order_47
        · have hf := zx_neg c_6 hf
          refine lv_iload hx hb dX6_order_33 (lv_at hl 5 rfl) ?_
          refine lv_if_lt (tgt := 45) hx hb dX6_order_35 (by decide) (fun c_7 => ?_) (fun c_7 => ?_)
          · have hf := zx_pos c_7 hf
            refine lv_bipush (v := (-2 : Int32)) hx hb dX6_order_45 (by decide) ?_
            exact zx_iret hx hb hr hlocks rfl hG hf dX6_order_47
          · have hf := zx_neg c_7 hf
            refine lv_iload hx hb dX6_order_38 (lv_at hl 5 rfl) ?_
            refine lv_bipush (v := (6 : Int32)) hx hb dX6_order_40 (by decide) ?_
            refine lv_icmp_lt (tgt := 48) hx hb dX6_order_42 (by decide) (fun c_8 => ?_) (fun c_8 => ?_)
            · have hf := zx_pos c_8 hf
              refine lv_aload_n hx hb dX6_order_48 rfl (lv_at hl 0 rfl) ?_
              refine lv_aload_n hx hb dX6_order_49 rfl (lv_at hl 0 rfl) ?_
              refine zx_getR (d := 1) hx hb hts hiX6 hown hG shX_0 vc_6 0 (by decide) rfl L2 dX6_order_50 ?_
              refine lv_iload_n hx hb dX6_order_53 rfl (lv_at hl 1 rfl) ?_
              obtain ⟨g_9, hf⟩ := zx_in hf
              refine zx_aldR (d := (zsO (x1.toNatClampNeg))) (t := 1) hx hb hG shX_1 rfl g_9 (shX_rs (zx_lt g_9)) dX6_order_54 ?_
              refine lv_iload_n hx hb dX6_order_55 rfl (lv_at hl 2 rfl) ?_
              refine lv_iload_n hx hb dX6_order_56 rfl (lv_at hl 3 rfl) ?_
              refine lv_iload hx hb dX6_order_57 (lv_at hl 4 rfl) ?_
              obtain ⟨r_10, I_10, h_10, hf⟩ := zx_b hf
              refine zx_calli (va_runV (As := [.ref (ad (zsO (x1.toNatClampNeg))), .int x2, .int x3, .int x4]) (rest := []) ⟨hx, hb, hml, hown, hts⟩ (mX6_takePairs l D ad cA (x1.toNatClampNeg) (zx_lt g_9) x2 x3 x4 I_3 r_10 I_10 h_10 _) (cwV 4 hts gX6_order_X6_takePairs rfl rfl rfl hd_X6_takePairs ⟨Nat.le_of_ble_eq_true rfl, Nat.le_of_ble_eq_true rfl⟩) (zx_preV hG shX_0 vc_6) rfl rfl hl.1 rfl (lv_room (Nat.le_of_ble_eq_true rfl)) dX6_order_59 ⟨Nat.le_refl _, Nat.le_refl _⟩) hG (fun H locs hG => ?_)
              refine lv_istore (lv' := [(6, .int r_10), (0, .ref (ad 0)), (1, .int x1), (2, .int x2), (3, .int x3), (4, .int x4), (5, .int x5)]) hx hb dX6_order_62 hl (by decide) rfl (fun ls hl => ?_)
              refine lv_iload hx hb dX6_order_64 (lv_at hl 0 rfl) ?_
              refine lv_if_eq (tgt := 72) hx hb dX6_order_66 (by decide) (fun c_11 => ?_) (fun c_11 => ?_)
              · have hf := zx_pos c_11 hf
                refine lv_iload hx hb dX6_order_72 (lv_at hl 6 rfl) ?_
                refine lv_aload_n hx hb dX6_order_74 rfl (lv_at hl 1 rfl) ?_
                refine zx_getR (d := 35) hx hb hts hiX6 hown hG shX_0 vc_6 4 (by decide) rfl L3 dX6_order_75 ?_
                refine zx_getI hx hb hts hiX1 hown hG shX_35 vc_1 0 (by decide) rfl L4 dX6_order_78 ?_
                refine lv_icmp_lt (tgt := 87) hx hb dX6_order_81 (by decide) (fun c_12 => ?_) (fun c_12 => ?_)
                · have hf := zx_pos c_12 hf
                  refine lv_aload_n hx hb dX6_order_87 rfl (lv_at hl 1 rfl) ?_
                  refine zx_getR (d := 30) hx hb hts hiX6 hown hG shX_0 vc_6 5 (by decide) rfl L5 dX6_order_88 ?_
                  refine lv_iconst (v := (0 : Int32)) hx hb dX6_order_91 (by decide) ?_
                  refine zx_aldR (d := (zaO 1)) (t := 2) hx hb hG shX_30 rfl (by unfold vp_in; decide) (by decide) dX6_order_92 ?_
                  refine lv_aload_n hx hb dX6_order_93 rfl (lv_at hl 1 rfl) ?_
                  refine zx_getR (d := (zaO 0)) hx hb hts hiX6 hown hG shX_0 vc_6 2 (by decide) rfl L6 dX6_order_94 ?_
                  obtain ⟨I_14, h_14, hf⟩ := zx_v hf
                  refine zx_callv (va_runV (As := [.ref (ad (zaO 0))]) (rest := []) ⟨hx, hb, hml, hown, hts⟩ (mX0_becomeLike l D ad cA 1 0 (by decide : 1 < 8) (by decide : 0 < 8) I_10 I_14 h_14 _) (cwV 1 hts gX6_order_X0_becomeLike rfl rfl rfl hd_X0_becomeLike ⟨Nat.le_of_ble_eq_true rfl, Nat.le_of_ble_eq_true rfl⟩) (zx_preV hG (shX_aO (by decide : 1 < 8)) vc_0) rfl rfl hl.1 rfl (lv_room (Nat.le_of_ble_eq_true rfl)) dX6_order_97 ⟨Nat.le_refl _, Nat.le_refl _⟩) hG (fun H locs hG => ?_)
                  refine lv_aload_n hx hb dX6_order_100 rfl (lv_at hl 1 rfl) ?_
                  refine zx_getR (d := 10) hx hb hts hiX6 hown hG shX_0 vc_6 1 (by decide) rfl L7 dX6_order_101 ?_
                  refine lv_aload_n hx hb dX6_order_104 rfl (lv_at hl 1 rfl) ?_
                  refine zx_getR (d := 35) hx hb hts hiX6 hown hG shX_0 vc_6 4 (by decide) rfl L3 dX6_order_105 ?_
                  refine lv_aload_n hx hb dX6_order_108 rfl (lv_at hl 1 rfl) ?_
                  refine zx_getR (d := 30) hx hb hts hiX6 hown hG shX_0 vc_6 5 (by decide) rfl L5 dX6_order_109 ?_
                  refine lv_aload_n hx hb dX6_order_112 rfl (lv_at hl 1 rfl) ?_
                  refine zx_getR (d := 38) hx hb hts hiX6 hown hG shX_0 vc_6 6 (by decide) rfl L8 dX6_order_113 ?_
                  refine lv_iconst (v := (0 : Int32)) hx hb dX6_order_116 (by decide) ?_
                  refine lv_iconst (v := (0 : Int32)) hx hb dX6_order_117 (by decide) ?_
                  obtain ⟨r_15, I_15, h_15, hf⟩ := zx_b hf
                  refine zx_calli (va_runS (As := [.ref (ad 10), .ref (ad 35), .ref (ad 30), .ref (ad 38), .int (0 : Int32), .int (0 : Int32)]) (rest := []) ⟨hx, hb, hml, hown, hts⟩ (mX6_endsOrder l D ad cA 20 (0 : Int32) (0 : Int32) I_14 r_15 I_15 h_15 _) (va_cwS 6 hts gX6_order_X6_endsOrder rfl rfl rfl hd_X6_endsOrder ⟨Nat.le_of_ble_eq_true rfl, Nat.le_of_ble_eq_true rfl⟩) (zx_preS hG) rfl rfl hl.1 rfl (lv_room (Nat.le_of_ble_eq_true rfl)) dX6_order_118 ⟨Nat.le_refl _, Nat.le_refl _⟩) hG (fun H locs hG => ?_)
                  refine lv_if_eq (tgt := 134) hx hb dX6_order_121 (by decide) (fun c_16 => ?_) (fun c_16 => ?_)
                  · have hf := zx_pos c_16 hf
                    refine lv_bipush (v := (-9 : Int32)) hx hb dX6_order_134 (by decide) ?_
                    exact zx_iret hx hb hr hlocks rfl hG hf dX6_order_136
                  · have hf := zx_neg c_16 hf
                    refine lv_aload_n hx hb dX6_order_124 rfl (lv_at hl 1 rfl) ?_
                    refine zx_getR (d := 38) hx hb hts hiX6 hown hG shX_0 vc_6 6 (by decide) rfl L8 dX6_order_125 ?_
                    refine lv_iload hx hb dX6_order_128 (lv_at hl 6 rfl) ?_
                    obtain ⟨g_17, hf⟩ := zx_in hf
                    refine zx_ald hx hb hG shX_38 g_17 dX6_order_130 ?_
                    refine lv_goto (tgt := 136) hx hb dX6_order_131 (by decide) ?_
                    exact zx_iret hx hb hr hlocks rfl hG hf dX6_order_136
                · have hf := zx_neg c_12 hf
                  refine lv_bipush (v := (-9 : Int32)) hx hb dX6_order_84 (by decide) ?_
                  exact zx_iret hx hb hr hlocks rfl hG hf dX6_order_86
              · have hf := zx_neg c_11 hf
                refine lv_iload hx hb dX6_order_69 (lv_at hl 0 rfl) ?_
                exact zx_iret hx hb hr hlocks rfl hG hf dX6_order_71
            · have hf := zx_neg c_8 hf
              refine lv_bipush (v := (-2 : Int32)) hx hb dX6_order_45 (by decide) ?_
              exact zx_iret hx hb hr hlocks rfl hG hf dX6_order_47
  · have hf := zx_pos c_2 hf
    refine lv_iconst (v := (-1 : Int32)) hx hb dX6_order_12 (by decide) ?_
    exact zx_iret hx hb hr hlocks rfl hG hf dX6_order_13

set_option maxHeartbeats 4000000 in
set_option maxRecDepth 100000 in
theorem mX6_dropsWithDoors (l : Launch) (D : va_G) (ad : Nat → Nat) (cA : Nat → ClassId) (x1 : Int32) (I : zxI) (r : Int32) (J : zxI) (hf : fX6_dropsWithDoors x1 I = some (r, J)) (sz : Nat) : Met l yX6_dropsWithDoors wsX6_dropsWithDoors { frames := 5, cells := 0, slots := 0, locals := 111 } (va_Pc [.ref (ad 0), .int x1] (zxPre D shX ad cA I sz)) (va_Qi (fun (r2 : Int32) (I2 : zxI) => r2 = r ∧ I2 = J) (zxPost D shX ad cA sz) (zxA shX ad sz)) 0 0 (zxA shX ad sz) := by
  refine zx_start (by decide) rfl (Nat.le_of_ble_eq_true rfl) ?_
  intro p e s m args below meth c ls hx hb hr hts hown hlocks hml hG hl
  have hl : lv_has ls 5 [(0, .ref (ad 0)), (1, .int x1)] := hl
  have hiX1 : ∀ w ∈ wsX10, w ∈ wsX6_dropsWithDoors := fun w h => List.mem_cons_of_mem _ (List.mem_append_left _ (List.mem_append_left _ (List.mem_append_right _ h)))
  have hiX6 : ∀ w ∈ wsX60, w ∈ wsX6_dropsWithDoors := fun w h => List.mem_cons_of_mem _ (List.mem_append_left _ (List.mem_append_left _ (List.mem_append_left _ (List.mem_append_right _ h))))
  have L1 := hts (Cond.fieldLink RX6 45 "GalleryBirds" "trials" "[LGalleryBirds$Air;") (List.mem_of_getElem? (i := 1) rfl)
  have L2 := hts (Cond.fieldLink RX6 27 "GalleryBirds" "air" "LGalleryBirds$Air;") (List.mem_of_getElem? (i := 2) rfl)
  have L3 := hts (Cond.fieldLink RX6 41 "GalleryBirds" "pairs" "LGalleryBirds$Pairs;") (List.mem_of_getElem? (i := 3) rfl)
  have L4 := hts (Cond.fieldLink RX6 164 "GalleryBirds$Pairs" "count" "I") (List.mem_of_getElem? (i := 4) rfl)
  have L5 := hts (Cond.fieldLink RX6 20 "GalleryBirds" "pit" "LGalleryBirds$Pit;") (List.mem_of_getElem? (i := 5) rfl)
  have L6 := hts (Cond.fieldLink RX6 167 "GalleryBirds$Pairs" "galleries" "[I") (List.mem_of_getElem? (i := 6) rfl)
  have L7 := hts (Cond.fieldLink RX6 169 "GalleryBirds$Pairs" "words" "[I") (List.mem_of_getElem? (i := 7) rfl)
  unfold fX6_dropsWithDoors at hf
  refine lv_aload_n hx hb dX6_dropsWithDoors_0 rfl (lv_at hl 0 rfl) ?_
  refine zx_getR (d := 30) hx hb hts hiX6 hown hG shX_0 vc_6 5 (by decide) rfl L1 dX6_dropsWithDoors_1 ?_
  refine lv_iconst (v := (0 : Int32)) hx hb dX6_dropsWithDoors_4 (by decide) ?_
  refine zx_aldR (d := (zaO 1)) (t := 2) hx hb hG shX_30 rfl (by unfold vp_in; decide) (by decide) dX6_dropsWithDoors_5 ?_
  refine lv_astore_n (lv' := [(2, .ref (ad (zaO 1))), (0, .ref (ad 0)), (1, .int x1)]) hx hb dX6_dropsWithDoors_6 rfl hl (by decide) rfl (fun ls hl => ?_)
  refine lv_aload_n hx hb dX6_dropsWithDoors_7 rfl (lv_at hl 0 rfl) ?_
  refine lv_aload_n hx hb dX6_dropsWithDoors_8 rfl (lv_at hl 1 rfl) ?_
  refine zx_getR (d := (zaO 0)) hx hb hts hiX6 hown hG shX_0 vc_6 2 (by decide) rfl L2 dX6_dropsWithDoors_9 ?_
  obtain ⟨I_2, h_2, hf⟩ := zx_v hf
  refine zx_callv (va_runV (As := [.ref (ad (zaO 0))]) (rest := []) ⟨hx, hb, hml, hown, hts⟩ (mX0_becomeLike l D ad cA 1 0 (by decide : 1 < 8) (by decide : 0 < 8) I I_2 h_2 _) (cwV 1 hts gX6_dropsWithDoors_X0_becomeLike rfl rfl rfl hd_X0_becomeLike ⟨Nat.le_of_ble_eq_true rfl, Nat.le_of_ble_eq_true rfl⟩) (zx_preV hG (shX_aO (by decide : 1 < 8)) vc_0) rfl rfl hl.1 rfl (lv_room (Nat.le_of_ble_eq_true rfl)) dX6_dropsWithDoors_12 ⟨Nat.le_refl _, Nat.le_refl _⟩) hG (fun H locs hG => ?_)
  refine lv_iconst (v := (0 : Int32)) hx hb dX6_dropsWithDoors_15 (by decide) ?_
  refine lv_istore_n (lv' := [(3, .int (0 : Int32)), (2, .ref (ad (zaO 1))), (0, .ref (ad 0)), (1, .int x1)]) hx hb dX6_dropsWithDoors_16 rfl hl (by decide) rfl (fun ls hl => ?_)
  refine lv_iconst (v := (0 : Int32)) hx hb dX6_dropsWithDoors_17 (by decide) ?_
  refine lv_istore (lv' := [(4, .int (0 : Int32)), (3, .int (0 : Int32)), (2, .ref (ad (zaO 1))), (0, .ref (ad 0)), (1, .int x1)]) hx hb dX6_dropsWithDoors_18 hl (by decide) rfl (fun ls hl => ?_)
  have loop20 : ∀ (n : Nat) (v1 : Int32) (v3 : Int32) (v4 : Int32) (I : zxI) (H : Heap) (locs : List Loc) (ls : Array Slot), fX6_dropsWithDoors_L20 n v1 v3 v4 I = some (r, J) → zxAt D shX ad cA I s sz H locs → lv_has ls 5 [(0, .ref (ad 0)), (1, .int v1), (2, .ref (ad (zaO 1))), (3, .int v3), (4, .int v4)] → W p l e (headSpec wsX6_dropsWithDoors { frames := 5, cells := 0, slots := 0, locals := 111 }).room s m args below meth c H locs 0 0 (MQ below (va_Qi (fun (r2 : Int32) (I2 : zxI) => r2 = r ∧ I2 = J) (zxPost D shX ad cA sz) (zxA shX ad sz)) args s 0 0 (zxA shX ad sz)) (F0 m 20 ls []) := by
    intro n
    induction n with
    | zero =>
      intro v1 v3 v4 I H locs ls hf hG hl
      rw [fX6_dropsWithDoors_L20] at hf
      cases hf
    | succ n20 ih20 =>
      intro v1 v3 v4 I H locs ls hf hG hl
      rw [fX6_dropsWithDoors_L20] at hf
      refine lv_iload hx hb dX6_dropsWithDoors_20 (lv_at hl 4 rfl) ?_
      refine lv_aload_n hx hb dX6_dropsWithDoors_22 rfl (lv_at hl 0 rfl) ?_
      refine zx_getR (d := 35) hx hb hts hiX6 hown hG shX_0 vc_6 4 (by decide) rfl L3 dX6_dropsWithDoors_23 ?_
      refine zx_getI hx hb hts hiX1 hown hG shX_35 vc_1 0 (by decide) rfl L4 dX6_dropsWithDoors_26 ?_
      refine lv_icmp_ge (tgt := 70) hx hb dX6_dropsWithDoors_29 (by decide) (fun c_3 => ?_) (fun c_3 => ?_)
      · have hf := zx_pos c_3 hf
        refine lv_iload_n hx hb dX6_dropsWithDoors_70 rfl (lv_at hl 3 rfl) ?_
        obtain ⟨r_4, I_4, h_4, hf⟩ := zx_b hf
        refine zx_calli (va_runS (As := [.int v3]) (rest := []) ⟨hx, hb, hml, hown, hts⟩ (mJ6_bitCount_0f7a4 l D ad cA v3 I r_4 I_4 h_4 _) (va_cwS 1 hts gX6_dropsWithDoors_J6_bitCount_0f7a4 rfl rfl rfl hd_J6_bitCount_0f7a4 ⟨Nat.le_of_ble_eq_true rfl, Nat.le_of_ble_eq_true rfl⟩) (zx_preS hG) rfl rfl hl.1 rfl (lv_room (Nat.le_of_ble_eq_true rfl)) dX6_dropsWithDoors_71 ⟨Nat.le_refl _, Nat.le_refl _⟩) hG (fun H locs hG => ?_)
        exact zx_iret hx hb hr hlocks rfl hG hf dX6_dropsWithDoors_74
      · have hf := zx_neg c_3 hf
        refine lv_iload_n hx hb dX6_dropsWithDoors_32 rfl (lv_at hl 3 rfl) ?_
        refine lv_aload_n hx hb dX6_dropsWithDoors_33 rfl (lv_at hl 0 rfl) ?_
        refine zx_getR (d := 10) hx hb hts hiX6 hown hG shX_0 vc_6 1 (by decide) rfl L5 dX6_dropsWithDoors_34 ?_
        refine lv_aload_n hx hb dX6_dropsWithDoors_37 rfl (lv_at hl 2 rfl) ?_
        refine lv_iload_n hx hb dX6_dropsWithDoors_38 rfl (lv_at hl 1 rfl) ?_
        refine lv_aload_n hx hb dX6_dropsWithDoors_39 rfl (lv_at hl 0 rfl) ?_
        refine zx_getR (d := 35) hx hb hts hiX6 hown hG shX_0 vc_6 4 (by decide) rfl L3 dX6_dropsWithDoors_40 ?_
        refine zx_getR (d := 36) hx hb hts hiX1 hown hG shX_35 vc_1 1 (by decide) rfl L6 dX6_dropsWithDoors_43 ?_
        refine lv_iload hx hb dX6_dropsWithDoors_46 (lv_at hl 4 rfl) ?_
        obtain ⟨g_5, hf⟩ := zx_in hf
        refine zx_ald hx hb hG shX_36 g_5 dX6_dropsWithDoors_48 ?_
        refine lv_aload_n hx hb dX6_dropsWithDoors_49 rfl (lv_at hl 0 rfl) ?_
        refine zx_getR (d := 35) hx hb hts hiX6 hown hG shX_0 vc_6 4 (by decide) rfl L3 dX6_dropsWithDoors_50 ?_
        refine zx_getR (d := 37) hx hb hts hiX1 hown hG shX_35 vc_1 2 (by decide) rfl L7 dX6_dropsWithDoors_53 ?_
        refine lv_iload hx hb dX6_dropsWithDoors_56 (lv_at hl 4 rfl) ?_
        refine zx_ald hx hb hG shX_37 g_5 dX6_dropsWithDoors_58 ?_
        obtain ⟨r_7, I_7, h_7, hf⟩ := zx_b hf
        refine zx_calli (va_runV (As := [.ref (ad (zaO 1)), .int v1, .int (I 36 v4.toNatClampNeg), .int (I 37 v4.toNatClampNeg)]) (rest := [.int v3]) ⟨hx, hb, hml, hown, hts⟩ (mX2_breathe l D ad cA 1 (by decide : 1 < 8) v1 (I 36 v4.toNatClampNeg) (I 37 v4.toNatClampNeg) I r_7 I_7 h_7 _) (cwV 4 hts gX6_dropsWithDoors_X2_breathe rfl rfl rfl hd_X2_breathe ⟨Nat.le_of_ble_eq_true rfl, Nat.le_of_ble_eq_true rfl⟩) (zx_preV hG shX_10 vc_2) rfl rfl hl.1 rfl (lv_room (Nat.le_of_ble_eq_true rfl)) dX6_dropsWithDoors_59 ⟨Nat.le_refl _, Nat.le_refl _⟩) hG (fun H locs hG => ?_)
        refine lv_ior hx hb dX6_dropsWithDoors_62 ?_
        refine lv_istore_n (lv' := [(3, .int (v3 ||| r_7)), (0, .ref (ad 0)), (1, .int v1), (2, .ref (ad (zaO 1))), (4, .int v4)]) hx hb dX6_dropsWithDoors_63 rfl hl (by decide) rfl (fun ls hl => ?_)
        refine lv_iinc (v := (v4 + (1 : Int32))) (lv' := [(4, .int (v4 + (1 : Int32))), (3, .int (v3 ||| r_7)), (0, .ref (ad 0)), (1, .int v1), (2, .ref (ad (zaO 1)))]) hx hb dX6_dropsWithDoors_64 hl (k := 4) rfl (congrArg (HAdd.hAdd v4) (by decide)) (by decide) rfl (fun ls hl => ?_)
        refine lv_goto (tgt := 20) hx hb dX6_dropsWithDoors_67 (by decide) ?_
        exact ih20 v1 (v3 ||| r_7) (v4 + (1 : Int32)) I_7 _ _ ls hf hG (lv_sub hl [2, 3, 4, 1, 0] rfl)
  exact loop20 _ x1 (0 : Int32) (0 : Int32) I_2 _ _ ls hf hG (lv_sub hl [3, 4, 2, 1, 0] rfl)

set_option maxHeartbeats 4000000 in
set_option maxRecDepth 100000 in
theorem mX6_shut (l : Launch) (D : va_G) (ad : Nat → Nat) (cA : Nat → ClassId) (x1 : Int32) (x2 : Int32) (x3 : Int32) (x4 : Int32) (x5 : Int32) (I : zxI) (r : Int32) (J : zxI) (hf : fX6_shut x1 x2 x3 x4 x5 I = some (r, J)) (sz : Nat) : Met l yX6_shut wsX6_shut { frames := 6, cells := 0, slots := 0, locals := 135 } (va_Pc [.ref (ad 0), .int x1, .int x2, .int x3, .int x4, .int x5] (zxPre D shX ad cA I sz)) (va_Qi (fun (r2 : Int32) (I2 : zxI) => r2 = r ∧ I2 = J) (zxPost D shX ad cA sz) (zxA shX ad sz)) 0 0 (zxA shX ad sz) := by
  refine zx_start (by decide) rfl (Nat.le_of_ble_eq_true rfl) ?_
  intro p e s m args below meth c ls hx hb hr hts hown hlocks hml hG hl
  have hl : lv_has ls 11 [(0, .ref (ad 0)), (1, .int x1), (2, .int x2), (3, .int x3), (4, .int x4), (5, .int x5)] := hl
  have hiX2 : ∀ w ∈ wsX20, w ∈ wsX6_shut := fun w h => List.mem_cons_of_mem _ (List.mem_append_left _ (List.mem_append_left _ (List.mem_append_left _ (List.mem_append_right _ h))))
  have hiX6 : ∀ w ∈ wsX60, w ∈ wsX6_shut := fun w h => List.mem_cons_of_mem _ (List.mem_append_left _ (List.mem_append_left _ (List.mem_append_left _ (List.mem_append_left _ (List.mem_append_right _ h)))))
  have L1 := hts (Cond.fieldLink RX6 67 "GalleryBirds" "lastFault" "I") (List.mem_of_getElem? (i := 1) rfl)
  have L2 := hts (Cond.fieldLink RX6 13 "GalleryBirds" "sheets" "[LGalleryBirds$Sheet;") (List.mem_of_getElem? (i := 2) rfl)
  have L3 := hts (Cond.fieldLink RX6 20 "GalleryBirds" "pit" "LGalleryBirds$Pit;") (List.mem_of_getElem? (i := 3) rfl)
  have L4 := hts (Cond.fieldLink RX6 97 "GalleryBirds$Pit" "galleries" "I") (List.mem_of_getElem? (i := 4) rfl)
  unfold fX6_shut at hf
  refine lv_aload_n hx hb dX6_shut_0 rfl (lv_at hl 0 rfl) ?_
  refine lv_iconst (v := (0 : Int32)) hx hb dX6_shut_1 (by decide) ?_
  refine zx_putI hx hb hts hiX6 tyX6 tyX6_ok nmX6 hown hG shX_0 vc_6 10 (by decide) rfl L1 rfl (ty := .int) (tyX6_ok 10 (by decide)) rfl rfl dX6_shut_2 (fun H locs hG => ?_)
  refine lv_iload_n hx hb dX6_shut_5 rfl (lv_at hl 1 rfl) ?_
  obtain ⟨r_1, I_1, h_1, hf⟩ := zx_b hf
  refine zx_calli (va_runS (As := [.int x1]) (rest := []) ⟨hx, hb, hml, hown, hts⟩ (mX6_isSheet l D ad cA x1 (zxU I 0 10 (0 : Int32)) r_1 I_1 h_1 _) (va_cwS 1 hts gX6_shut_X6_isSheet rfl rfl rfl hd_X6_isSheet ⟨Nat.le_of_ble_eq_true rfl, Nat.le_of_ble_eq_true rfl⟩) (zx_preS hG) rfl rfl hl.1 rfl (lv_room (Nat.le_of_ble_eq_true rfl)) dX6_shut_6 ⟨Nat.le_refl _, Nat.le_refl _⟩) hG (fun H locs hG => ?_)
  refine lv_if_ne (tgt := 14) hx hb dX6_shut_9 (by decide) (fun c_2 => ?_) (fun c_2 => ?_)
  · have hf := zx_neg c_2 hf
    refine lv_iload_n hx hb dX6_shut_14 rfl (lv_at hl 2 rfl) ?_
    obtain ⟨r_3, I_3, h_3, hf⟩ := zx_b hf
    refine zx_calli (va_runS (As := [.int x2]) (rest := []) ⟨hx, hb, hml, hown, hts⟩ (mX6_isLane l D ad cA x2 I_1 r_3 I_3 h_3 _) (va_cwS 1 hts gX6_shut_X6_isLane rfl rfl rfl hd_X6_isLane ⟨Nat.le_of_ble_eq_true rfl, Nat.le_of_ble_eq_true rfl⟩) (zx_preS hG) rfl rfl hl.1 rfl (lv_room (Nat.le_of_ble_eq_true rfl)) dX6_shut_15 ⟨Nat.le_refl _, Nat.le_refl _⟩) hG (fun H locs hG => ?_)
    refine lv_if_eq (tgt := 44) hx hb dX6_shut_18 (by decide) (fun c_4 => ?_) (fun c_4 => ?_)
    · have hf := zx_pos c_4 hf
      refine lv_bipush (v := (-2 : Int32)) hx hb dX6_shut_44 (by decide) ?_
      exact zx_iret hx hb hr hlocks rfl hG hf dX6_shut_46
    · have hf := zx_neg c_4 hf
      refine lv_iload hx hb dX6_shut_21 (lv_at hl 4 rfl) ?_
      refine lv_if_lt (tgt := 44) hx hb dX6_shut_23 (by decide) (fun c_5 => ?_) (fun c_5 => ?_)
      · have hf := zx_pos c_5 hf
        refine lv_bipush (v := (-2 : Int32)) hx hb dX6_shut_44 (by decide) ?_
        exact zx_iret hx hb hr hlocks rfl hG hf dX6_shut_46
      · have hf := zx_neg c_5 hf
        refine lv_iload hx hb dX6_shut_26 (lv_at hl 4 rfl) ?_
        refine lv_bipush (v := (20 : Int32)) hx hb dX6_shut_28 (by decide) ?_
        refine lv_icmp_gt (tgt := 44) hx hb dX6_shut_30 (by decide) (fun c_6 => ?_) (fun c_6 => ?_)
        · have hf := zx_pos c_6 hf
          refine lv_bipush (v := (-2 : Int32)) hx hb dX6_shut_44 (by decide) ?_
          exact zx_iret hx hb hr hlocks rfl hG hf dX6_shut_46
        · have hf := zx_neg c_6 hf
          refine lv_iload hx hb dX6_shut_33 (lv_at hl 5 rfl) ?_
          refine lv_if_lt (tgt := 44) hx hb dX6_shut_35 (by decide) (fun c_7 => ?_) (fun c_7 => ?_)
          · have hf := zx_pos c_7 hf
            refine lv_bipush (v := (-2 : Int32)) hx hb dX6_shut_44 (by decide) ?_
            exact zx_iret hx hb hr hlocks rfl hG hf dX6_shut_46
          · have hf := zx_neg c_7 hf
            refine lv_iload hx hb dX6_shut_38 (lv_at hl 5 rfl) ?_
            refine lv_iconst (v := (1 : Int32)) hx hb dX6_shut_40 (by decide) ?_
            refine lv_icmp_le (tgt := 47) hx hb dX6_shut_41 (by decide) (fun c_8 => ?_) (fun c_8 => ?_)
            · have hf := zx_pos c_8 hf
              refine lv_aload_n hx hb dX6_shut_47 rfl (lv_at hl 0 rfl) ?_
              refine lv_aload_n hx hb dX6_shut_48 rfl (lv_at hl 0 rfl) ?_
              refine zx_getR (d := 1) hx hb hts hiX6 hown hG shX_0 vc_6 0 (by decide) rfl L2 dX6_shut_49 ?_
              refine lv_iload_n hx hb dX6_shut_52 rfl (lv_at hl 1 rfl) ?_
              obtain ⟨g_9, hf⟩ := zx_in hf
              refine zx_aldR (d := (zsO (x1.toNatClampNeg))) (t := 1) hx hb hG shX_1 rfl g_9 (shX_rs (zx_lt g_9)) dX6_shut_53 ?_
              refine lv_iload_n hx hb dX6_shut_54 rfl (lv_at hl 2 rfl) ?_
              refine lv_iload_n hx hb dX6_shut_55 rfl (lv_at hl 3 rfl) ?_
              refine lv_iload hx hb dX6_shut_56 (lv_at hl 4 rfl) ?_
              obtain ⟨r_10, I_10, h_10, hf⟩ := zx_b hf
              refine zx_calli (va_runV (As := [.ref (ad (zsO (x1.toNatClampNeg))), .int x2, .int x3, .int x4]) (rest := []) ⟨hx, hb, hml, hown, hts⟩ (mX6_takePairs l D ad cA (x1.toNatClampNeg) (zx_lt g_9) x2 x3 x4 I_3 r_10 I_10 h_10 _) (cwV 4 hts gX6_shut_X6_takePairs rfl rfl rfl hd_X6_takePairs ⟨Nat.le_of_ble_eq_true rfl, Nat.le_of_ble_eq_true rfl⟩) (zx_preV hG shX_0 vc_6) rfl rfl hl.1 rfl (lv_room (Nat.le_of_ble_eq_true rfl)) dX6_shut_58 ⟨Nat.le_refl _, Nat.le_refl _⟩) hG (fun H locs hG => ?_)
              refine lv_istore (lv' := [(6, .int r_10), (0, .ref (ad 0)), (1, .int x1), (2, .int x2), (3, .int x3), (4, .int x4), (5, .int x5)]) hx hb dX6_shut_61 hl (by decide) rfl (fun ls hl => ?_)
              refine lv_iload hx hb dX6_shut_63 (lv_at hl 0 rfl) ?_
              refine lv_if_eq (tgt := 71) hx hb dX6_shut_65 (by decide) (fun c_11 => ?_) (fun c_11 => ?_)
              · have hf := zx_pos c_11 hf
                refine lv_iconst (v := (0 : Int32)) hx hb dX6_shut_71 (by decide) ?_
                refine lv_istore (lv' := [(7, .int (0 : Int32)), (6, .int r_10), (0, .ref (ad 0)), (1, .int x1), (2, .int x2), (3, .int x3), (4, .int x4), (5, .int x5)]) hx hb dX6_shut_72 hl (by decide) rfl (fun ls hl => ?_)
                refine lv_aload_n hx hb dX6_shut_74 rfl (lv_at hl 2 rfl) ?_
                refine lv_iconst (v := (0 : Int32)) hx hb dX6_shut_75 (by decide) ?_
                obtain ⟨r_12, I_12, h_12, hf⟩ := zx_b hf
                refine zx_calli (va_runV (As := [.int (0 : Int32)]) (rest := []) ⟨hx, hb, hml, hown, hts⟩ (mX6_dropsWithDoors l D ad cA (0 : Int32) I_10 r_12 I_12 h_12 _) (cwV 1 hts gX6_shut_X6_dropsWithDoors rfl rfl rfl hd_X6_dropsWithDoors ⟨Nat.le_of_ble_eq_true rfl, Nat.le_of_ble_eq_true rfl⟩) (zx_preV hG shX_0 vc_6) rfl rfl hl.1 rfl (lv_room (Nat.le_of_ble_eq_true rfl)) dX6_shut_76 ⟨Nat.le_refl _, Nat.le_refl _⟩) hG (fun H locs hG => ?_)
                refine lv_istore (lv' := [(8, .int r_12), (7, .int (0 : Int32)), (6, .int r_10), (0, .ref (ad 0)), (1, .int x1), (2, .int x2), (3, .int x3), (4, .int x4), (5, .int x5)]) hx hb dX6_shut_79 hl (by decide) rfl (fun ls hl => ?_)
                refine lv_iconst (v := (1 : Int32)) hx hb dX6_shut_81 (by decide) ?_
                refine lv_istore (lv' := [(9, .int (1 : Int32)), (8, .int r_12), (7, .int (0 : Int32)), (6, .int r_10), (0, .ref (ad 0)), (1, .int x1), (2, .int x2), (3, .int x3), (4, .int x4), (5, .int x5)]) hx hb dX6_shut_82 hl (by decide) rfl (fun ls hl => ?_)
                have loop84 : ∀ (n : Nat) (v5 : Int32) (v7 : Int32) (v8 : Int32) (v9 : Int32) (I : zxI) (H : Heap) (locs : List Loc) (ls : Array Slot), fX6_shut_L84 n v5 v7 v8 v9 I = some (r, J) → zxAt D shX ad cA I s sz H locs → lv_has ls 11 [(0, .ref (ad 0)), (5, .int v5), (7, .int v7), (8, .int v8), (9, .int v9)] → W p l e (headSpec wsX6_shut { frames := 6, cells := 0, slots := 0, locals := 135 }).room s m args below meth c H locs 0 0 (MQ below (va_Qi (fun (r2 : Int32) (I2 : zxI) => r2 = r ∧ I2 = J) (zxPost D shX ad cA sz) (zxA shX ad sz)) args s 0 0 (zxA shX ad sz)) (F0 m 84 ls []) := by
                  intro n
                  induction n with
                  | zero =>
                    intro v5 v7 v8 v9 I H locs ls hf hG hl
                    rw [fX6_shut_L84] at hf
                    cases hf
                  | succ n84 ih84 =>
                    intro v5 v7 v8 v9 I H locs ls hf hG hl
                    rw [fX6_shut_L84] at hf
                    refine lv_iload hx hb dX6_shut_84 (lv_at hl 4 rfl) ?_
                    refine lv_iconst (v := (1 : Int32)) hx hb dX6_shut_86 (by decide) ?_
                    refine lv_aload_n hx hb dX6_shut_87 rfl (lv_at hl 0 rfl) ?_
                    refine zx_getR (d := 10) hx hb hts hiX6 hown hG shX_0 vc_6 1 (by decide) rfl L3 dX6_shut_88 ?_
                    refine zx_getI hx hb hts hiX2 hown hG shX_10 vc_2 0 (by decide) rfl L4 dX6_shut_91 ?_
                    refine lv_iconst (v := (1 : Int32)) hx hb dX6_shut_94 (by decide) ?_
                    refine lv_isub hx hb dX6_shut_95 ?_
                    refine lv_ishl hx hb dX6_shut_96 ?_
                    refine lv_icmp_ge (tgt := 149) hx hb dX6_shut_97 (by decide) (fun c_13 => ?_) (fun c_13 => ?_)
                    · have hf := zx_pos c_13 hf
                      refine lv_iload hx hb dX6_shut_149 (lv_at hl 1 rfl) ?_
                      refine lv_if_ne (tgt := 159) hx hb dX6_shut_151 (by decide) (fun c_14 => ?_) (fun c_14 => ?_)
                      · have hf := zx_neg c_14 hf
                        refine lv_iload hx hb dX6_shut_159 (lv_at hl 3 rfl) ?_
                        exact zx_iret hx hb hr hlocks rfl hG hf dX6_shut_161
                      · have hf := zx_pos c_14 hf
                        refine lv_iload hx hb dX6_shut_154 (lv_at hl 2 rfl) ?_
                        refine lv_goto (tgt := 161) hx hb dX6_shut_156 (by decide) ?_
                        exact zx_iret hx hb hr hlocks rfl hG hf dX6_shut_161
                    · have hf := zx_neg c_13 hf
                      refine lv_aload_n hx hb dX6_shut_100 rfl (lv_at hl 0 rfl) ?_
                      refine lv_iload hx hb dX6_shut_101 (lv_at hl 4 rfl) ?_
                      obtain ⟨r_15, I_15, h_15, hf⟩ := zx_b hf
                      refine zx_calli (va_runV (As := [.int v9]) (rest := []) ⟨hx, hb, hml, hown, hts⟩ (mX6_dropsWithDoors l D ad cA v9 I r_15 I_15 h_15 _) (cwV 1 hts gX6_shut_X6_dropsWithDoors rfl rfl rfl hd_X6_dropsWithDoors ⟨Nat.le_of_ble_eq_true rfl, Nat.le_of_ble_eq_true rfl⟩) (zx_preV hG shX_0 vc_6) rfl rfl hl.1 rfl (lv_room (Nat.le_of_ble_eq_true rfl)) dX6_shut_103 ⟨Nat.le_refl _, Nat.le_refl _⟩) hG (fun H locs hG => ?_)
                      refine lv_istore (lv' := [(10, .int r_15), (0, .ref (ad 0)), (5, .int v5), (7, .int v7), (8, .int v8), (9, .int v9)]) hx hb dX6_shut_106 hl (by decide) rfl (fun ls hl => ?_)
                      refine lv_iload hx hb dX6_shut_108 (lv_at hl 0 rfl) ?_
                      refine lv_iload hx hb dX6_shut_110 (lv_at hl 4 rfl) ?_
                      refine lv_icmp_lt (tgt := 135) hx hb dX6_shut_112 (by decide) (fun c_16 => ?_) (fun c_16 => ?_)
                      · have hf := zx_pos c_16 hf
                        refine lv_iload hx hb dX6_shut_135 (lv_at hl 5 rfl) ?_
                        refine lv_istore (lv' := [(7, .int v9), (10, .int r_15), (0, .ref (ad 0)), (5, .int v5), (8, .int v8), (9, .int v9)]) hx hb dX6_shut_137 hl (by decide) rfl (fun ls hl => ?_)
                        refine lv_iload hx hb dX6_shut_139 (lv_at hl 1 rfl) ?_
                        refine lv_istore (lv' := [(8, .int r_15), (7, .int v9), (10, .int r_15), (0, .ref (ad 0)), (5, .int v5), (9, .int v9)]) hx hb dX6_shut_141 hl (by decide) rfl (fun ls hl => ?_)
                        refine lv_iinc (v := (v9 + (1 : Int32))) (lv' := [(9, .int (v9 + (1 : Int32))), (8, .int r_15), (7, .int v9), (10, .int r_15), (0, .ref (ad 0)), (5, .int v5)]) hx hb dX6_shut_143 hl (k := 5) rfl (congrArg (HAdd.hAdd v9) (by decide)) (by decide) rfl (fun ls hl => ?_)
                        refine lv_goto (tgt := 84) hx hb dX6_shut_146 (by decide) ?_
                        exact ih84 v5 v9 r_15 (v9 + (1 : Int32)) I_15 _ _ ls hf hG (lv_sub hl [4, 5, 2, 1, 0] rfl)
                      · have hf := zx_neg c_16 hf
                        refine lv_iload hx hb dX6_shut_115 (lv_at hl 0 rfl) ?_
                        refine lv_iload hx hb dX6_shut_117 (lv_at hl 4 rfl) ?_
                        refine lv_icmp_ne (tgt := 143) hx hb dX6_shut_119 (by decide) (fun c_17 => ?_) (fun c_17 => ?_)
                        · have hf := zx_neg c_17 hf
                          refine lv_iinc (v := (v9 + (1 : Int32))) (lv' := [(9, .int (v9 + (1 : Int32))), (10, .int r_15), (0, .ref (ad 0)), (5, .int v5), (7, .int v7), (8, .int v8)]) hx hb dX6_shut_143 hl (k := 5) rfl (congrArg (HAdd.hAdd v9) (by decide)) (by decide) rfl (fun ls hl => ?_)
                          refine lv_goto (tgt := 84) hx hb dX6_shut_146 (by decide) ?_
                          exact ih84 v5 v7 v8 (v9 + (1 : Int32)) I_15 _ _ ls hf hG (lv_sub hl [2, 3, 4, 5, 0] rfl)
                        · have hf := zx_pos c_17 hf
                          refine lv_iload hx hb dX6_shut_122 (lv_at hl 5 rfl) ?_
                          obtain ⟨r_18, I_18, h_18, hf⟩ := zx_b hf
                          refine zx_calli (va_runS (As := [.int v9]) (rest := []) ⟨hx, hb, hml, hown, hts⟩ (mJ6_bitCount_0f7a4 l D ad cA v9 I_15 r_18 I_18 h_18 _) (va_cwS 1 hts gX6_shut_J6_bitCount_0f7a4 rfl rfl rfl hd_J6_bitCount_0f7a4 ⟨Nat.le_of_ble_eq_true rfl, Nat.le_of_ble_eq_true rfl⟩) (zx_preS hG) rfl rfl hl.1 rfl (lv_room (Nat.le_of_ble_eq_true rfl)) dX6_shut_124 ⟨Nat.le_refl _, Nat.le_refl _⟩) hG (fun H locs hG => ?_)
                          refine lv_iload hx hb dX6_shut_127 (lv_at hl 3 rfl) ?_
                          obtain ⟨r_19, I_19, h_19, hf⟩ := zx_b hf
                          refine zx_calli (va_runS (As := [.int v7]) (rest := [.int r_18]) ⟨hx, hb, hml, hown, hts⟩ (mJ6_bitCount_0f7a4 l D ad cA v7 I_18 r_19 I_19 h_19 _) (va_cwS 1 hts gX6_shut_J6_bitCount_0f7a4 rfl rfl rfl hd_J6_bitCount_0f7a4 ⟨Nat.le_of_ble_eq_true rfl, Nat.le_of_ble_eq_true rfl⟩) (zx_preS hG) rfl rfl hl.1 rfl (lv_room (Nat.le_of_ble_eq_true rfl)) dX6_shut_129 ⟨Nat.le_refl _, Nat.le_refl _⟩) hG (fun H locs hG => ?_)
                          refine lv_icmp_ge (tgt := 143) hx hb dX6_shut_132 (by decide) (fun c_20 => ?_) (fun c_20 => ?_)
                          · have hf := zx_pos c_20 hf
                            refine lv_iinc (v := (v9 + (1 : Int32))) (lv' := [(9, .int (v9 + (1 : Int32))), (10, .int r_15), (0, .ref (ad 0)), (5, .int v5), (7, .int v7), (8, .int v8)]) hx hb dX6_shut_143 hl (k := 5) rfl (congrArg (HAdd.hAdd v9) (by decide)) (by decide) rfl (fun ls hl => ?_)
                            refine lv_goto (tgt := 84) hx hb dX6_shut_146 (by decide) ?_
                            exact ih84 v5 v7 v8 (v9 + (1 : Int32)) I_19 _ _ ls hf hG (lv_sub hl [2, 3, 4, 5, 0] rfl)
                          · have hf := zx_neg c_20 hf
                            refine lv_iload hx hb dX6_shut_135 (lv_at hl 5 rfl) ?_
                            refine lv_istore (lv' := [(7, .int v9), (10, .int r_15), (0, .ref (ad 0)), (5, .int v5), (8, .int v8), (9, .int v9)]) hx hb dX6_shut_137 hl (by decide) rfl (fun ls hl => ?_)
                            refine lv_iload hx hb dX6_shut_139 (lv_at hl 1 rfl) ?_
                            refine lv_istore (lv' := [(8, .int r_15), (7, .int v9), (10, .int r_15), (0, .ref (ad 0)), (5, .int v5), (9, .int v9)]) hx hb dX6_shut_141 hl (by decide) rfl (fun ls hl => ?_)
                            refine lv_iinc (v := (v9 + (1 : Int32))) (lv' := [(9, .int (v9 + (1 : Int32))), (8, .int r_15), (7, .int v9), (10, .int r_15), (0, .ref (ad 0)), (5, .int v5)]) hx hb dX6_shut_143 hl (k := 5) rfl (congrArg (HAdd.hAdd v9) (by decide)) (by decide) rfl (fun ls hl => ?_)
                            refine lv_goto (tgt := 84) hx hb dX6_shut_146 (by decide) ?_
                            exact ih84 v5 v9 r_15 (v9 + (1 : Int32)) I_19 _ _ ls hf hG (lv_sub hl [4, 5, 2, 1, 0] rfl)
                exact loop84 _ x5 (0 : Int32) r_12 (1 : Int32) I_12 _ _ ls hf hG (lv_sub hl [4, 9, 2, 1, 0] rfl)
              · have hf := zx_neg c_11 hf
                refine lv_iload hx hb dX6_shut_68 (lv_at hl 0 rfl) ?_
                exact zx_iret hx hb hr hlocks rfl hG hf dX6_shut_70
            · have hf := zx_neg c_8 hf
              refine lv_bipush (v := (-2 : Int32)) hx hb dX6_shut_44 (by decide) ?_
              exact zx_iret hx hb hr hlocks rfl hG hf dX6_shut_46
  · have hf := zx_pos c_2 hf
    refine lv_iconst (v := (-1 : Int32)) hx hb dX6_shut_12 (by decide) ?_
    exact zx_iret hx hb hr hlocks rfl hG hf dX6_shut_13

set_option maxHeartbeats 4000000 in
set_option maxRecDepth 100000 in
theorem mX6_rests (l : Launch) (D : va_G) (ad : Nat → Nat) (cA : Nat → ClassId) (I : zxI) (r : Int32) (J : zxI) (hf : fX6_rests I = some (r, J)) (sz : Nat) : Met l yX6_rests wsX6_rests { frames := 2, cells := 0, slots := 0, locals := 81 } (va_Pc [.ref (ad 0)] (zxPre D shX ad cA I sz)) (va_Qi (fun (r2 : Int32) (I2 : zxI) => r2 = r ∧ I2 = J) (zxPost D shX ad cA sz) (zxA shX ad sz)) 0 0 (zxA shX ad sz) := by
  refine zx_start (by decide) rfl (Nat.le_of_ble_eq_true rfl) ?_
  intro p e s m args below meth c ls hx hb hr hts hown hlocks hml hG hl
  have hl : lv_has ls 3 [(0, .ref (ad 0))] := hl
  have hiX2 : ∀ w ∈ wsX20, w ∈ wsX6_rests := fun w h => List.mem_cons_of_mem _ (List.mem_append_left _ (List.mem_append_right _ h))
  have hiX6 : ∀ w ∈ wsX60, w ∈ wsX6_rests := fun w h => List.mem_cons_of_mem _ (List.mem_append_left _ (List.mem_append_left _ (List.mem_append_right _ h)))
  have L1 := hts (Cond.fieldLink RX6 45 "GalleryBirds" "trials" "[LGalleryBirds$Air;") (List.mem_of_getElem? (i := 1) rfl)
  have L2 := hts (Cond.fieldLink RX6 27 "GalleryBirds" "air" "LGalleryBirds$Air;") (List.mem_of_getElem? (i := 2) rfl)
  have L3 := hts (Cond.fieldLink RX6 20 "GalleryBirds" "pit" "LGalleryBirds$Pit;") (List.mem_of_getElem? (i := 3) rfl)
  have L4 := hts (Cond.fieldLink RX6 121 "GalleryBirds$Pit" "doors" "I") (List.mem_of_getElem? (i := 4) rfl)
  unfold fX6_rests at hf
  refine lv_aload_n hx hb dX6_rests_0 rfl (lv_at hl 0 rfl) ?_
  obtain ⟨r_1, I_1, h_1, hf⟩ := zx_b hf
  refine zx_calli (va_runV (As := []) (rest := []) ⟨hx, hb, hml, hown, hts⟩ (mX6_hasMine l D ad cA I r_1 I_1 h_1 _) (cwV 0 hts gX6_rests_X6_hasMine rfl rfl rfl hd_X6_hasMine ⟨Nat.le_of_ble_eq_true rfl, Nat.le_of_ble_eq_true rfl⟩) (zx_preV hG shX_0 vc_6) rfl rfl hl.1 rfl (lv_room (Nat.le_of_ble_eq_true rfl)) dX6_rests_1 ⟨Nat.le_refl _, Nat.le_refl _⟩) hG (fun H locs hG => ?_)
  refine lv_if_ne (tgt := 10) hx hb dX6_rests_4 (by decide) (fun c_2 => ?_) (fun c_2 => ?_)
  · have hf := zx_neg c_2 hf
    refine lv_aload_n hx hb dX6_rests_10 rfl (lv_at hl 0 rfl) ?_
    refine zx_getR (d := 30) hx hb hts hiX6 hown hG shX_0 vc_6 5 (by decide) rfl L1 dX6_rests_11 ?_
    refine lv_iconst (v := (0 : Int32)) hx hb dX6_rests_14 (by decide) ?_
    refine zx_aldR (d := (zaO 1)) (t := 2) hx hb hG shX_30 rfl (by unfold vp_in; decide) (by decide) dX6_rests_15 ?_
    refine lv_astore_n (lv' := [(1, .ref (ad (zaO 1))), (0, .ref (ad 0))]) hx hb dX6_rests_16 rfl hl (by decide) rfl (fun ls hl => ?_)
    refine lv_aload_n hx hb dX6_rests_17 rfl (lv_at hl 0 rfl) ?_
    refine lv_aload_n hx hb dX6_rests_18 rfl (lv_at hl 1 rfl) ?_
    refine zx_getR (d := (zaO 0)) hx hb hts hiX6 hown hG shX_0 vc_6 2 (by decide) rfl L2 dX6_rests_19 ?_
    obtain ⟨I_4, h_4, hf⟩ := zx_v hf
    refine zx_callv (va_runV (As := [.ref (ad (zaO 0))]) (rest := []) ⟨hx, hb, hml, hown, hts⟩ (mX0_becomeLike l D ad cA 1 0 (by decide : 1 < 8) (by decide : 0 < 8) I_1 I_4 h_4 _) (cwV 1 hts gX6_rests_X0_becomeLike rfl rfl rfl hd_X0_becomeLike ⟨Nat.le_of_ble_eq_true rfl, Nat.le_of_ble_eq_true rfl⟩) (zx_preV hG (shX_aO (by decide : 1 < 8)) vc_0) rfl rfl hl.1 rfl (lv_room (Nat.le_of_ble_eq_true rfl)) dX6_rests_22 ⟨Nat.le_refl _, Nat.le_refl _⟩) hG (fun H locs hG => ?_)
    refine lv_iconst (v := (0 : Int32)) hx hb dX6_rests_25 (by decide) ?_
    refine lv_istore_n (lv' := [(2, .int (0 : Int32)), (1, .ref (ad (zaO 1))), (0, .ref (ad 0))]) hx hb dX6_rests_26 rfl hl (by decide) rfl (fun ls hl => ?_)
    have loop27 : ∀ (n : Nat) (v2 : Int32) (I : zxI) (H : Heap) (locs : List Loc) (ls : Array Slot), fX6_rests_L27 n v2 I = some (r, J) → zxAt D shX ad cA I s sz H locs → lv_has ls 3 [(0, .ref (ad 0)), (1, .ref (ad (zaO 1))), (2, .int v2)] → W p l e (headSpec wsX6_rests { frames := 2, cells := 0, slots := 0, locals := 81 }).room s m args below meth c H locs 0 0 (MQ below (va_Qi (fun (r2 : Int32) (I2 : zxI) => r2 = r ∧ I2 = J) (zxPost D shX ad cA sz) (zxA shX ad sz)) args s 0 0 (zxA shX ad sz)) (F0 m 27 ls []) := by
      intro n
      induction n with
      | zero =>
        intro v2 I H locs ls hf hG hl
        rw [fX6_rests_L27] at hf
        cases hf
      | succ n27 ih27 =>
        intro v2 I H locs ls hf hG hl
        rw [fX6_rests_L27] at hf
        refine lv_iload_n hx hb dX6_rests_27 rfl (lv_at hl 2 rfl) ?_
        refine lv_bipush (v := (60 : Int32)) hx hb dX6_rests_28 (by decide) ?_
        refine lv_icmp_gt (tgt := 59) hx hb dX6_rests_30 (by decide) (fun c_5 => ?_) (fun c_5 => ?_)
        · have hf := zx_pos c_5 hf
          refine lv_bipush (v := (-9 : Int32)) hx hb dX6_rests_59 (by decide) ?_
          exact zx_iret hx hb hr hlocks rfl hG hf dX6_rests_61
        · have hf := zx_neg c_5 hf
          refine lv_aload_n hx hb dX6_rests_33 rfl (lv_at hl 0 rfl) ?_
          refine zx_getR (d := 10) hx hb hts hiX6 hown hG shX_0 vc_6 1 (by decide) rfl L3 dX6_rests_34 ?_
          refine lv_aload_n hx hb dX6_rests_37 rfl (lv_at hl 1 rfl) ?_
          refine lv_aload_n hx hb dX6_rests_38 rfl (lv_at hl 0 rfl) ?_
          refine zx_getR (d := 10) hx hb hts hiX6 hown hG shX_0 vc_6 1 (by decide) rfl L3 dX6_rests_39 ?_
          refine zx_getI hx hb hts hiX2 hown hG shX_10 vc_2 5 (by decide) rfl L4 dX6_rests_42 ?_
          obtain ⟨r_6, I_6, h_6, hf⟩ := zx_b hf
          refine zx_calli (va_runV (As := [.ref (ad (zaO 1)), .int (I 10 5)]) (rest := []) ⟨hx, hb, hml, hown, hts⟩ (mX2_passAir l D ad cA 1 (by decide : 1 < 8) (I 10 5) I r_6 I_6 h_6 _) (cwV 2 hts gX6_rests_X2_passAir rfl rfl rfl hd_X2_passAir ⟨Nat.le_of_ble_eq_true rfl, Nat.le_of_ble_eq_true rfl⟩) (zx_preV hG shX_10 vc_2) rfl rfl hl.1 rfl (lv_room (Nat.le_of_ble_eq_true rfl)) dX6_rests_45 ⟨Nat.le_refl _, Nat.le_refl _⟩) hG (fun H locs hG => ?_)
          refine lv_if_ne (tgt := 53) hx hb dX6_rests_48 (by decide) (fun c_7 => ?_) (fun c_7 => ?_)
          · have hf := zx_neg c_7 hf
            refine lv_iinc (v := (v2 + (1 : Int32))) (lv' := [(2, .int (v2 + (1 : Int32))), (0, .ref (ad 0)), (1, .ref (ad (zaO 1)))]) hx hb dX6_rests_53 hl (k := 2) rfl (congrArg (HAdd.hAdd v2) (by decide)) (by decide) rfl (fun ls hl => ?_)
            refine lv_goto (tgt := 27) hx hb dX6_rests_56 (by decide) ?_
            exact ih27 (v2 + (1 : Int32)) I_6 _ _ ls hf hG (lv_sub hl [1, 2, 0] rfl)
          · have hf := zx_pos c_7 hf
            refine lv_iload_n hx hb dX6_rests_51 rfl (lv_at hl 2 rfl) ?_
            exact zx_iret hx hb hr hlocks rfl hG hf dX6_rests_52
    exact loop27 _ (0 : Int32) I_4 _ _ ls hf hG (lv_sub hl [2, 1, 0] rfl)
  · have hf := zx_pos c_2 hf
    refine lv_bipush (v := (-3 : Int32)) hx hb dX6_rests_7 (by decide) ?_
    exact zx_iret hx hb hr hlocks rfl hG hf dX6_rests_9

set_option maxHeartbeats 4000000 in
set_option maxRecDepth 100000 in
theorem mX6_clears (l : Launch) (D : va_G) (ad : Nat → Nat) (cA : Nat → ClassId) (x1 : Int32) (x2 : Int32) (I : zxI) (r : Int32) (J : zxI) (hf : fX6_clears x1 x2 I = some (r, J)) (sz : Nat) : Met l yX6_clears wsX6_clears { frames := 2, cells := 0, slots := 0, locals := 81 } (va_Pc [.ref (ad 0), .int x1, .int x2] (zxPre D shX ad cA I sz)) (va_Qi (fun (r2 : Int32) (I2 : zxI) => r2 = r ∧ I2 = J) (zxPost D shX ad cA sz) (zxA shX ad sz)) 0 0 (zxA shX ad sz) := by
  refine zx_start (by decide) rfl (Nat.le_of_ble_eq_true rfl) ?_
  intro p e s m args below meth c ls hx hb hr hts hown hlocks hml hG hl
  have hl : lv_has ls 5 [(0, .ref (ad 0)), (1, .int x1), (2, .int x2)] := hl
  have hiX0 : ∀ w ∈ wsX00, w ∈ wsX6_clears := fun w h => List.mem_cons_of_mem _ (List.mem_append_left _ (List.mem_append_right _ h))
  have hiX2 : ∀ w ∈ wsX20, w ∈ wsX6_clears := fun w h => List.mem_cons_of_mem _ (List.mem_append_right _ h)
  have hiX6 : ∀ w ∈ wsX60, w ∈ wsX6_clears := fun w h => List.mem_cons_of_mem _ (List.mem_append_left _ (List.mem_append_left _ (List.mem_append_right _ h)))
  have L1 := hts (Cond.fieldLink RX6 45 "GalleryBirds" "trials" "[LGalleryBirds$Air;") (List.mem_of_getElem? (i := 1) rfl)
  have L2 := hts (Cond.fieldLink RX6 27 "GalleryBirds" "air" "LGalleryBirds$Air;") (List.mem_of_getElem? (i := 2) rfl)
  have L3 := hts (Cond.fieldLink RX6 106 "GalleryBirds$Air" "fouls" "[I") (List.mem_of_getElem? (i := 3) rfl)
  have L4 := hts (Cond.fieldLink RX6 20 "GalleryBirds" "pit" "LGalleryBirds$Pit;") (List.mem_of_getElem? (i := 4) rfl)
  have L5 := hts (Cond.fieldLink RX6 121 "GalleryBirds$Pit" "doors" "I") (List.mem_of_getElem? (i := 5) rfl)
  unfold fX6_clears at hf
  refine lv_aload_n hx hb dX6_clears_0 rfl (lv_at hl 0 rfl) ?_
  refine lv_iload_n hx hb dX6_clears_1 rfl (lv_at hl 1 rfl) ?_
  obtain ⟨r_1, I_1, h_1, hf⟩ := zx_b hf
  refine zx_calli (va_runV (As := [.int x1]) (rest := []) ⟨hx, hb, hml, hown, hts⟩ (mX6_isGallery l D ad cA x1 I r_1 I_1 h_1 _) (cwV 1 hts gX6_clears_X6_isGallery rfl rfl rfl hd_X6_isGallery ⟨Nat.le_of_ble_eq_true rfl, Nat.le_of_ble_eq_true rfl⟩) (zx_preV hG shX_0 vc_6) rfl rfl hl.1 rfl (lv_room (Nat.le_of_ble_eq_true rfl)) dX6_clears_2 ⟨Nat.le_refl _, Nat.le_refl _⟩) hG (fun H locs hG => ?_)
  refine lv_if_ne (tgt := 10) hx hb dX6_clears_5 (by decide) (fun c_2 => ?_) (fun c_2 => ?_)
  · have hf := zx_neg c_2 hf
    refine lv_iload_n hx hb dX6_clears_10 rfl (lv_at hl 2 rfl) ?_
    obtain ⟨r_3, I_3, h_3, hf⟩ := zx_b hf
    refine zx_calli (va_runS (As := [.int x2]) (rest := []) ⟨hx, hb, hml, hown, hts⟩ (mX6_isFoul l D ad cA x2 I_1 r_3 I_3 h_3 _) (va_cwS 1 hts gX6_clears_X6_isFoul rfl rfl rfl hd_X6_isFoul ⟨Nat.le_of_ble_eq_true rfl, Nat.le_of_ble_eq_true rfl⟩) (zx_preS hG) rfl rfl hl.1 rfl (lv_room (Nat.le_of_ble_eq_true rfl)) dX6_clears_11 ⟨Nat.le_refl _, Nat.le_refl _⟩) hG (fun H locs hG => ?_)
    refine lv_if_ne (tgt := 20) hx hb dX6_clears_14 (by decide) (fun c_4 => ?_) (fun c_4 => ?_)
    · have hf := zx_neg c_4 hf
      refine lv_aload_n hx hb dX6_clears_20 rfl (lv_at hl 0 rfl) ?_
      refine zx_getR (d := 30) hx hb hts hiX6 hown hG shX_0 vc_6 5 (by decide) rfl L1 dX6_clears_21 ?_
      refine lv_iconst (v := (0 : Int32)) hx hb dX6_clears_24 (by decide) ?_
      refine zx_aldR (d := (zaO 1)) (t := 2) hx hb hG shX_30 rfl (by unfold vp_in; decide) (by decide) dX6_clears_25 ?_
      refine lv_astore_n (lv' := [(3, .ref (ad (zaO 1))), (0, .ref (ad 0)), (1, .int x1), (2, .int x2)]) hx hb dX6_clears_26 rfl hl (by decide) rfl (fun ls hl => ?_)
      refine lv_aload_n hx hb dX6_clears_27 rfl (lv_at hl 0 rfl) ?_
      refine lv_aload_n hx hb dX6_clears_28 rfl (lv_at hl 1 rfl) ?_
      refine zx_getR (d := (zaO 0)) hx hb hts hiX6 hown hG shX_0 vc_6 2 (by decide) rfl L2 dX6_clears_29 ?_
      obtain ⟨I_6, h_6, hf⟩ := zx_v hf
      refine zx_callv (va_runV (As := [.ref (ad (zaO 0))]) (rest := []) ⟨hx, hb, hml, hown, hts⟩ (mX0_becomeLike l D ad cA 1 0 (by decide : 1 < 8) (by decide : 0 < 8) I_3 I_6 h_6 _) (cwV 1 hts gX6_clears_X0_becomeLike rfl rfl rfl hd_X0_becomeLike ⟨Nat.le_of_ble_eq_true rfl, Nat.le_of_ble_eq_true rfl⟩) (zx_preV hG (shX_aO (by decide : 1 < 8)) vc_0) rfl rfl hl.1 rfl (lv_room (Nat.le_of_ble_eq_true rfl)) dX6_clears_32 ⟨Nat.le_refl _, Nat.le_refl _⟩) hG (fun H locs hG => ?_)
      refine lv_iconst (v := (0 : Int32)) hx hb dX6_clears_35 (by decide) ?_
      refine lv_istore (lv' := [(4, .int (0 : Int32)), (3, .ref (ad (zaO 1))), (0, .ref (ad 0)), (1, .int x1), (2, .int x2)]) hx hb dX6_clears_36 hl (by decide) rfl (fun ls hl => ?_)
      have loop38 : ∀ (n : Nat) (v1 : Int32) (v2 : Int32) (v4 : Int32) (I : zxI) (H : Heap) (locs : List Loc) (ls : Array Slot), fX6_clears_L38 n v1 v2 v4 I = some (r, J) → zxAt D shX ad cA I s sz H locs → lv_has ls 5 [(0, .ref (ad 0)), (1, .int v1), (2, .int v2), (3, .ref (ad (zaO 1))), (4, .int v4)] → W p l e (headSpec wsX6_clears { frames := 2, cells := 0, slots := 0, locals := 81 }).room s m args below meth c H locs 0 0 (MQ below (va_Qi (fun (r2 : Int32) (I2 : zxI) => r2 = r ∧ I2 = J) (zxPost D shX ad cA sz) (zxA shX ad sz)) args s 0 0 (zxA shX ad sz)) (F0 m 38 ls []) := by
        intro n
        induction n with
        | zero =>
          intro v1 v2 v4 I H locs ls hf hG hl
          rw [fX6_clears_L38] at hf
          cases hf
        | succ n38 ih38 =>
          intro v1 v2 v4 I H locs ls hf hG hl
          rw [fX6_clears_L38] at hf
          refine lv_iload hx hb dX6_clears_38 (lv_at hl 4 rfl) ?_
          refine lv_bipush (v := (60 : Int32)) hx hb dX6_clears_40 (by decide) ?_
          refine lv_icmp_gt (tgt := 80) hx hb dX6_clears_42 (by decide) (fun c_7 => ?_) (fun c_7 => ?_)
          · have hf := zx_pos c_7 hf
            refine lv_bipush (v := (-9 : Int32)) hx hb dX6_clears_80 (by decide) ?_
            exact zx_iret hx hb hr hlocks rfl hG hf dX6_clears_82
          · have hf := zx_neg c_7 hf
            refine lv_aload_n hx hb dX6_clears_45 rfl (lv_at hl 3 rfl) ?_
            refine zx_getR (d := (zaF 1)) hx hb hts hiX0 hown hG (shX_aO (by decide : 1 < 8)) vc_0 0 (by decide) rfl L3 dX6_clears_46 ?_
            refine lv_iload_n hx hb dX6_clears_49 rfl (lv_at hl 1 rfl) ?_
            obtain ⟨g_8, hf⟩ := zx_in hf
            refine zx_ald hx hb hG (shX_aF (by decide : 1 < 8)) g_8 dX6_clears_50 ?_
            refine lv_iload_n hx hb dX6_clears_51 rfl (lv_at hl 2 rfl) ?_
            refine lv_icmp_gt (tgt := 58) hx hb dX6_clears_52 (by decide) (fun c_9 => ?_) (fun c_9 => ?_)
            · have hf := zx_pos c_9 hf
              refine lv_aload_n hx hb dX6_clears_58 rfl (lv_at hl 0 rfl) ?_
              refine zx_getR (d := 10) hx hb hts hiX6 hown hG shX_0 vc_6 1 (by decide) rfl L4 dX6_clears_59 ?_
              refine lv_aload_n hx hb dX6_clears_62 rfl (lv_at hl 3 rfl) ?_
              refine lv_aload_n hx hb dX6_clears_63 rfl (lv_at hl 0 rfl) ?_
              refine zx_getR (d := 10) hx hb hts hiX6 hown hG shX_0 vc_6 1 (by decide) rfl L4 dX6_clears_64 ?_
              refine zx_getI hx hb hts hiX2 hown hG shX_10 vc_2 5 (by decide) rfl L5 dX6_clears_67 ?_
              obtain ⟨r_10, I_10, h_10, hf⟩ := zx_b hf
              refine zx_calli (va_runV (As := [.ref (ad (zaO 1)), .int (I 10 5)]) (rest := []) ⟨hx, hb, hml, hown, hts⟩ (mX2_passAir l D ad cA 1 (by decide : 1 < 8) (I 10 5) I r_10 I_10 h_10 _) (cwV 2 hts gX6_clears_X2_passAir rfl rfl rfl hd_X2_passAir ⟨Nat.le_of_ble_eq_true rfl, Nat.le_of_ble_eq_true rfl⟩) (zx_preV hG shX_10 vc_2) rfl rfl hl.1 rfl (lv_room (Nat.le_of_ble_eq_true rfl)) dX6_clears_70 ⟨Nat.le_refl _, Nat.le_refl _⟩) hG (fun H locs hG => ?_)
              refine lv_pop hx hb dX6_clears_73 rfl ?_
              refine lv_iinc (v := (v4 + (1 : Int32))) (lv' := [(4, .int (v4 + (1 : Int32))), (0, .ref (ad 0)), (1, .int v1), (2, .int v2), (3, .ref (ad (zaO 1)))]) hx hb dX6_clears_74 hl (k := 4) rfl (congrArg (HAdd.hAdd v4) (by decide)) (by decide) rfl (fun ls hl => ?_)
              refine lv_goto (tgt := 38) hx hb dX6_clears_77 (by decide) ?_
              exact ih38 v1 v2 (v4 + (1 : Int32)) I_10 _ _ ls hf hG (lv_sub hl [1, 2, 3, 4, 0] rfl)
            · have hf := zx_neg c_9 hf
              refine lv_iload hx hb dX6_clears_55 (lv_at hl 4 rfl) ?_
              exact zx_iret hx hb hr hlocks rfl hG hf dX6_clears_57
      exact loop38 _ x1 x2 (0 : Int32) I_6 _ _ ls hf hG (lv_sub hl [2, 3, 4, 1, 0] rfl)
    · have hf := zx_pos c_4 hf
      refine lv_bipush (v := (-2 : Int32)) hx hb dX6_clears_17 (by decide) ?_
      exact zx_iret hx hb hr hlocks rfl hG hf dX6_clears_19
  · have hf := zx_pos c_2 hf
    refine lv_iconst (v := (-1 : Int32)) hx hb dX6_clears_8 (by decide) ?_
    exact zx_iret hx hb hr hlocks rfl hG hf dX6_clears_9
