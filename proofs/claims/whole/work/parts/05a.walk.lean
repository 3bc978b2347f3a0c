/-! walks of methods (laid by wip/whole/gen.py) -/
set_option maxHeartbeats 4000000 in
set_option maxRecDepth 100000 in
theorem mX0_isDown (l : Launch) (D : va_G) (ad : Nat → Nat) (cA : Nat → ClassId) (j0 : Nat) (hj0 : j0 < 8) (x1 : Int32) (I : zxI) (r : Int32) (J : zxI) (hf : fX0_isDown j0 x1 I = some (r, J)) (sz : Nat) : Met l yX0_isDown wsX0_isDown { frames := 0, cells := 0, slots := 0, locals := 0 } (va_Pc [.ref (ad (zaO j0)), .int x1] (zxPre D shX ad cA I sz)) (va_Qi (fun (r2 : Int32) (I2 : zxI) => r2 = r ∧ I2 = J) (zxPost D shX ad cA sz) (zxA shX ad sz)) 0 0 (zxA shX ad sz) := by
  refine zx_start (by decide) rfl (Nat.le_of_ble_eq_true rfl) ?_
  intro p e s m args below meth c ls hx hb hr hts hown hlocks hml hG hl
  have hl : lv_has ls 2 [(0, .ref (ad (zaO j0))), (1, .int x1)] := hl
  have hiX0 : ∀ w ∈ wsX00, w ∈ wsX0_isDown := fun w h => List.mem_cons_of_mem _ (List.mem_append_right _ h)
  have L1 := hts (Cond.fieldLink RX0 15 "GalleryBirds$Air" "down" "I") (List.mem_of_getElem? (i := 1) rfl)
  unfold fX0_isDown at hf
  refine lv_aload_n hx hb dX0_isDown_0 rfl (lv_at hl 0 rfl) ?_
  refine zx_getI hx hb hts hiX0 hown hG (shX_aO hj0) vc_0 1 (by decide) rfl L1 dX0_isDown_1 ?_
  refine lv_iload_n hx hb dX0_isDown_4 rfl (lv_at hl 1 rfl) ?_
  refine lv_ishr hx hb dX0_isDown_5 ?_
  refine lv_iconst (v := (1 : Int32)) hx hb dX0_isDown_6 (by decide) ?_
  refine lv_iand hx hb dX0_isDown_7 ?_
  refine lv_iconst (v := (1 : Int32)) hx hb dX0_isDown_8 (by decide) ?_
  refine lv_icmp_ne (tgt := 16) hx hb dX0_isDown_9 (by decide) (fun c_1 => ?_) (fun c_1 => ?_)
  · have hf := zx_neg c_1 hf
    refine lv_iconst (v := (0 : Int32)) hx hb dX0_isDown_16 (by decide) ?_
    exact zx_iret hx hb hr hlocks rfl hG hf dX0_isDown_17
  · have hf := zx_pos c_1 hf
    refine lv_iconst (v := (1 : Int32)) hx hb dX0_isDown_12 (by decide) ?_
    refine lv_goto (tgt := 17) hx hb dX0_isDown_13 (by decide) ?_
    exact zx_iret hx hb hr hlocks rfl hG hf dX0_isDown_17

set_option maxHeartbeats 4000000 in
set_option maxRecDepth 100000 in
theorem mX0_becomeLike (l : Launch) (D : va_G) (ad : Nat → Nat) (cA : Nat → ClassId) (j0 : Nat) (j1 : Nat) (hj0 : j0 < 8) (hj1 : j1 < 8) (I : zxI) (J : zxI) (hf : fX0_becomeLike j0 j1 I = some J) (sz : Nat) : Met l yX0_becomeLike wsX0_becomeLike { frames := 1, cells := 0, slots := 0, locals := 60 } (va_Pc [.ref (ad (zaO j0)), .ref (ad (zaO j1))] (zxPre D shX ad cA I sz)) (va_Qv (fun (I2 : zxI) => I2 = J) (zxPost D shX ad cA sz) (zxA shX ad sz)) 0 0 (zxA shX ad sz) := by
  refine zx_start (by decide) rfl (Nat.le_of_ble_eq_true rfl) ?_
  intro p e s m args below meth c ls hx hb hr hts hown hlocks hml hG hl
  have hl : lv_has ls 2 [(0, .ref (ad (zaO j0))), (1, .ref (ad (zaO j1)))] := hl
  have hiX0 : ∀ w ∈ wsX00, w ∈ wsX0_becomeLike := fun w h => List.mem_cons_of_mem _ (List.mem_append_right _ h)
  have L1 := hts (Cond.fieldLink RX0 9 "GalleryBirds$Air" "fouls" "[I") (List.mem_of_getElem? (i := 1) rfl)
  have L2 := hts (Cond.methodLink RX0 19 arraycopyName) (List.mem_of_getElem? (i := 2) rfl)
  have L3 := hts (Cond.native arraycopyName) (List.mem_of_getElem? (i := 3) rfl)
  have L4 := hts (Cond.static arraycopyName) (List.mem_of_getElem? (i := 4) rfl)
  have L5 := hts (Cond.initialized "java/lang/System") (List.mem_of_getElem? (i := 5) rfl)
  have L6 := hts (Cond.fieldLink RX0 15 "GalleryBirds$Air" "down" "I") (List.mem_of_getElem? (i := 6) rfl)
  unfold fX0_becomeLike at hf
  refine lv_aload_n hx hb dX0_becomeLike_0 rfl (lv_at hl 1 rfl) ?_
  refine zx_getR (d := (zaF j1)) hx hb hts hiX0 hown hG (shX_aO hj1) vc_0 0 (by decide) rfl L1 dX0_becomeLike_1 ?_
  refine lv_iconst (v := (0 : Int32)) hx hb dX0_becomeLike_4 (by decide) ?_
  refine lv_aload_n hx hb dX0_becomeLike_5 rfl (lv_at hl 0 rfl) ?_
  refine zx_getR (d := (zaF j0)) hx hb hts hiX0 hown hG (shX_aO hj0) vc_0 0 (by decide) rfl L1 dX0_becomeLike_6 ?_
  refine lv_iconst (v := (0 : Int32)) hx hb dX0_becomeLike_9 (by decide) ?_
  refine lv_bipush (v := (6 : Int32)) hx hb dX0_becomeLike_10 (by decide) ?_
  obtain ⟨⟨g_1, g_2, g_3, g_4, g_5⟩, hf⟩ := zx_gd hf
  refine zx_copy hx hb (hml.trans hl.1.symm) hown L2 L3 L4 L5 hG (shX_aF hj1) (shX_aF hj0) g_1 g_2 g_3 g_4 g_5 (Nat.le_of_ble_eq_true rfl) (Nat.le_of_ble_eq_true rfl) dX0_becomeLike_12 (fun H locs hG => ?_)
  refine lv_aload_n hx hb dX0_becomeLike_15 rfl (lv_at hl 0 rfl) ?_
  refine lv_aload_n hx hb dX0_becomeLike_16 rfl (lv_at hl 1 rfl) ?_
  refine zx_getI hx hb hts hiX0 hown hG (shX_aO hj1) vc_0 1 (by decide) rfl L6 dX0_becomeLike_17 ?_
  refine zx_putI hx hb hts hiX0 tyX0 tyX0_ok nmX0 hown hG (shX_aO hj0) vc_0 1 (by decide) rfl L6 rfl (ty := .int) (tyX0_ok 1 (by decide)) rfl rfl dX0_becomeLike_20 (fun H locs hG => ?_)
  exact zx_vret hx hb hr hlocks hG hf dX0_becomeLike_23

set_option maxHeartbeats 4000000 in
set_option maxRecDepth 100000 in
theorem mX6_bearing (l : Launch) (D : va_G) (ad : Nat → Nat) (cA : Nat → ClassId) (x0 : Int32) (x1 : Int32) (I : zxI) (r : Int32) (J : zxI) (hf : fX6_bearing x0 x1 I = some (r, J)) (sz : Nat) : Met l yX6_bearing wsX6_bearing { frames := 0, cells := 0, slots := 0, locals := 0 } (va_Pc [.int x0, .int x1] (zxPre D shX ad cA I sz)) (va_Qi (fun (r2 : Int32) (I2 : zxI) => r2 = r ∧ I2 = J) (zxPost D shX ad cA sz) (zxA shX ad sz)) 0 0 (zxA shX ad sz) := by
  refine zx_start (by decide) rfl (Nat.le_of_ble_eq_true rfl) ?_
  intro p e s m args below meth c ls hx hb hr hts hown hlocks hml hG hl
  have hl : lv_has ls 2 [(0, .int x0), (1, .int x1)] := hl
  unfold fX6_bearing at hf
  refine lv_iload_n hx hb dX6_bearing_0 rfl (lv_at hl 0 rfl) ?_
  by_cases c_1 : x0 = (1 : Int32)
  · have hf := zx_pos c_1 hf
    refine lv_lookup (off := 31) (tgt := 32) hx hb dX6_bearing_1 (by decide) (by rw [c_1]; decide) (by decide) ?_
    refine lv_iload_n hx hb dX6_bearing_32 rfl (lv_at hl 1 rfl) ?_
    refine lv_iconst (v := (1 : Int32)) hx hb dX6_bearing_33 (by decide) ?_
    refine lv_isub hx hb dX6_bearing_34 ?_
    exact zx_iret hx hb hr hlocks rfl hG hf dX6_bearing_35
  have hf := zx_neg c_1 hf
  by_cases c_2 : x0 = (2 : Int32)
  · have hf := zx_pos c_2 hf
    refine lv_lookup (off := 27) (tgt := 28) hx hb dX6_bearing_1 (by decide) (by rw [c_2]; decide) (by decide) ?_
    refine lv_iconst (v := (2 : Int32)) hx hb dX6_bearing_28 (by decide) ?_
    refine lv_iload_n hx hb dX6_bearing_29 rfl (lv_at hl 1 rfl) ?_
    refine lv_imul hx hb dX6_bearing_30 ?_
    exact zx_iret hx hb hr hlocks rfl hG hf dX6_bearing_31
  have hf := zx_neg c_2 hf
  refine lv_lookup (off := 35) (tgt := 36) hx hb dX6_bearing_1 (by decide) (zx_lk1 (zx_neI (by decide) c_1) (zx_lk1 (zx_neI (by decide) c_2) (zx_lk0))) (by decide) ?_
  refine lv_iload_n hx hb dX6_bearing_36 rfl (lv_at hl 1 rfl) ?_
  exact zx_iret hx hb hr hlocks rfl hG hf dX6_bearing_37

set_option maxHeartbeats 4000000 in
set_option maxRecDepth 100000 in
theorem mX2_bears (l : Launch) (D : va_G) (ad : Nat → Nat) (cA : Nat → ClassId) (x1 : Int32) (I : zxI) (r : Int32) (J : zxI) (hf : fX2_bears x1 I = some (r, J)) (sz : Nat) : Met l yX2_bears wsX2_bears { frames := 1, cells := 0, slots := 0, locals := 21 } (va_Pc [.ref (ad 10), .int x1] (zxPre D shX ad cA I sz)) (va_Qi (fun (r2 : Int32) (I2 : zxI) => r2 = r ∧ I2 = J) (zxPost D shX ad cA sz) (zxA shX ad sz)) 0 0 (zxA shX ad sz) := by
  refine zx_start (by decide) rfl (Nat.le_of_ble_eq_true rfl) ?_
  intro p e s m args below meth c ls hx hb hr hts hown hlocks hml hG hl
  have hl : lv_has ls 2 [(0, .ref (ad 10)), (1, .int x1)] := hl
  have hiX2 : ∀ w ∈ wsX20, w ∈ wsX2_bears := fun w h => List.mem_cons_of_mem _ (List.mem_append_right _ h)
  have L1 := hts (Cond.fieldLink RX2 22 "GalleryBirds$Pit" "kinds" "[I") (List.mem_of_getElem? (i := 1) rfl)
  have L2 := hts (Cond.fieldLink RX2 25 "GalleryBirds$Pit" "strengths" "[I") (List.mem_of_getElem? (i := 2) rfl)
  have L3 := hts (Cond.initialized RX6) (List.mem_of_getElem? (i := 4) rfl)
  have L4 := hts (Cond.static yX6_bearing) (List.mem_of_getElem? (i := 3) rfl)
  unfold fX2_bears at hf
  refine lv_aload_n hx hb dX2_bears_0 rfl (lv_at hl 0 rfl) ?_
  refine zx_getR (d := 12) hx hb hts hiX2 hown hG shX_10 vc_2 3 (by decide) rfl L1 dX2_bears_1 ?_
  refine lv_iload_n hx hb dX2_bears_4 rfl (lv_at hl 1 rfl) ?_
  obtain ⟨g_1, hf⟩ := zx_in hf
  refine zx_ald hx hb hG shX_12 g_1 dX2_bears_5 ?_
  refine lv_aload_n hx hb dX2_bears_6 rfl (lv_at hl 0 rfl) ?_
  refine zx_getR (d := 13) hx hb hts hiX2 hown hG shX_10 vc_2 4 (by decide) rfl L2 dX2_bears_7 ?_
  refine lv_iload_n hx hb dX2_bears_10 rfl (lv_at hl 1 rfl) ?_
  refine zx_ald hx hb hG shX_13 g_1 dX2_bears_11 ?_
  obtain ⟨r_3, I_3, h_3, hf⟩ := zx_b hf
  refine zx_calli (va_runSN (As := [.int (I 12 x1.toNatClampNeg), .int (I 13 x1.toNatClampNeg)]) (rest := []) ⟨hx, hb, hml, hown, hts⟩ (mX6_bearing l D ad cA (I 12 x1.toNatClampNeg) (I 13 x1.toNatClampNeg) I r_3 I_3 h_3 _) ⟨va_cnB 2 hts gX2_bears_X6_bearing_n31 rfl rfl rfl hG.2.1.2 L3 hd_X6_bearing ⟨Nat.le_of_ble_eq_true rfl, Nat.le_of_ble_eq_true rfl⟩, L4, trivial⟩ (zx_preS hG) rfl rfl hl.1 rfl (lv_room (Nat.le_of_ble_eq_true rfl)) dX2_bears_12 ⟨Nat.le_refl _, Nat.le_refl _⟩) hG (fun H locs hG => ?_)
  exact zx_iret hx hb hr hlocks rfl hG hf dX2_bears_15

set_option maxHeartbeats 4000000 in
set_option maxRecDepth 100000 in
theorem mX2_passAir (l : Launch) (D : va_G) (ad : Nat → Nat) (cA : Nat → ClassId) (j1 : Nat) (hj1 : j1 < 8) (x2 : Int32) (I : zxI) (r : Int32) (J : zxI) (hf : fX2_passAir j1 x2 I = some (r, J)) (sz : Nat) : Met l yX2_passAir wsX2_passAir { frames := 1, cells := 0, slots := 0, locals := 24 } (va_Pc [.ref (ad 10), .ref (ad (zaO j1)), .int x2] (zxPre D shX ad cA I sz)) (va_Qi (fun (r2 : Int32) (I2 : zxI) => r2 = r ∧ I2 = J) (zxPost D shX ad cA sz) (zxA shX ad sz)) 0 0 (zxA shX ad sz) := by
  refine zx_start (by decide) rfl (Nat.le_of_ble_eq_true rfl) ?_
  intro p e s m args below meth c ls hx hb hr hts hown hlocks hml hG hl
  have hl : lv_has ls 7 [(0, .ref (ad 10)), (1, .ref (ad (zaO j1))), (2, .int x2)] := hl
  have hiX0 : ∀ w ∈ wsX00, w ∈ wsX2_passAir := fun w h => List.mem_cons_of_mem _ (List.mem_append_right _ h)
  have hiX2 : ∀ w ∈ wsX20, w ∈ wsX2_passAir := fun w h => List.mem_cons_of_mem _ (List.mem_append_left _ (List.mem_append_right _ h))
  have L1 := hts (Cond.fieldLink RX2 9 "GalleryBirds$Pit" "galleries" "I") (List.mem_of_getElem? (i := 1) rfl)
  have L2 := hts (Cond.fieldLink RX2 35 "GalleryBirds$Air" "fouls" "[I") (List.mem_of_getElem? (i := 2) rfl)
  have L3 := hts (Cond.methodLink RX2 59 Lib.Math.abs.name) (List.mem_of_getElem? (i := 3) rfl)
  have L4 := hts (Cond.static Lib.Math.abs.name) (List.mem_of_getElem? (i := 4) rfl)
  have L5 := hts (Cond.initialized "java/lang/Math") (List.mem_of_getElem? (i := 5) rfl)
  have L6 := hts (Cond.code Lib.Math.abs.name Lib.Math.abs.code 1 (some .int)) (List.mem_of_getElem? (i := 6) rfl)
  unfold fX2_passAir at hf
  refine lv_iconst (v := (0 : Int32)) hx hb dX2_passAir_0 (by decide) ?_
  refine lv_istore_n (lv' := [(3, .int (0 : Int32)), (0, .ref (ad 10)), (1, .ref (ad (zaO j1))), (2, .int x2)]) hx hb dX2_passAir_1 rfl hl (by decide) rfl (fun ls hl => ?_)
  refine lv_iconst (v := (0 : Int32)) hx hb dX2_passAir_2 (by decide) ?_
  refine lv_istore (lv' := [(4, .int (0 : Int32)), (3, .int (0 : Int32)), (0, .ref (ad 10)), (1, .ref (ad (zaO j1))), (2, .int x2)]) hx hb dX2_passAir_3 hl (by decide) rfl (fun ls hl => ?_)
  have loop5 : ∀ (n : Nat) (v2 : Int32) (v3 : Int32) (v4 : Int32) (I : zxI) (H : Heap) (locs : List Loc) (ls : Array Slot), fX2_passAir_L5 j1 n v2 v3 v4 I = some (r, J) → zxAt D shX ad cA I s sz H locs → lv_has ls 7 [(0, .ref (ad 10)), (1, .ref (ad (zaO j1))), (2, .int v2), (3, .int v3), (4, .int v4)] → W p l e (headSpec wsX2_passAir { frames := 1, cells := 0, slots := 0, locals := 24 }).room s m args below meth c H locs 0 0 (MQ below (va_Qi (fun (r2 : Int32) (I2 : zxI) => r2 = r ∧ I2 = J) (zxPost D shX ad cA sz) (zxA shX ad sz)) args s 0 0 (zxA shX ad sz)) (F0 m 5 ls []) := by
    intro n
    induction n with
    | zero =>
      intro v2 v3 v4 I H locs ls hf hG hl
      rw [fX2_passAir_L5] at hf
      cases hf
    | succ n5 ih5 =>
      intro v2 v3 v4 I H locs ls hf hG hl
      rw [fX2_passAir_L5] at hf
      refine lv_iload hx hb dX2_passAir_5 (lv_at hl 4 rfl) ?_
      refine lv_aload_n hx hb dX2_passAir_7 rfl (lv_at hl 0 rfl) ?_
      refine zx_getI hx hb hts hiX2 hown hG shX_10 vc_2 0 (by decide) rfl L1 dX2_passAir_8 ?_
      refine lv_iconst (v := (1 : Int32)) hx hb dX2_passAir_11 (by decide) ?_
      refine lv_isub hx hb dX2_passAir_12 ?_
      refine lv_icmp_ge (tgt := 101) hx hb dX2_passAir_13 (by decide) (fun c_1 => ?_) (fun c_1 => ?_)
      · have hf := zx_pos c_1 hf
        refine lv_iload_n hx hb dX2_passAir_101 rfl (lv_at hl 3 rfl) ?_
        exact zx_iret hx hb hr hlocks rfl hG hf dX2_passAir_102
      · have hf := zx_neg c_1 hf
        refine lv_aload_n hx hb dX2_passAir_16 rfl (lv_at hl 1 rfl) ?_
        refine zx_getR (d := (zaF j1)) hx hb hts hiX0 hown hG (shX_aO hj1) vc_0 0 (by decide) rfl L2 dX2_passAir_17 ?_
        refine lv_iload hx hb dX2_passAir_20 (lv_at hl 4 rfl) ?_
        obtain ⟨g_2, hf⟩ := zx_in hf
        refine zx_ald hx hb hG (shX_aF hj1) g_2 dX2_passAir_22 ?_
        refine lv_aload_n hx hb dX2_passAir_23 rfl (lv_at hl 1 rfl) ?_
        refine zx_getR (d := (zaF j1)) hx hb hts hiX0 hown hG (shX_aO hj1) vc_0 0 (by decide) rfl L2 dX2_passAir_24 ?_
        refine lv_iload hx hb dX2_passAir_27 (lv_at hl 4 rfl) ?_
        refine lv_iconst (v := (1 : Int32)) hx hb dX2_passAir_29 (by decide) ?_
        refine lv_iadd hx hb dX2_passAir_30 ?_
        obtain ⟨g_3, hf⟩ := zx_in hf
        refine zx_ald hx hb hG (shX_aF hj1) g_3 dX2_passAir_31 ?_
        refine lv_isub hx hb dX2_passAir_32 ?_
        refine lv_istore (lv' := [(5, .int ((I (zaF j1) v4.toNatClampNeg) - (I (zaF j1) (v4 + (1 : Int32)).toNatClampNeg))), (0, .ref (ad 10)), (1, .ref (ad (zaO j1))), (2, .int v2), (3, .int v3), (4, .int v4)]) hx hb dX2_passAir_33 hl (by decide) rfl (fun ls hl => ?_)
        refine lv_iload_n hx hb dX2_passAir_35 rfl (lv_at hl 3 rfl) ?_
        refine lv_iload hx hb dX2_passAir_36 (lv_at hl 5 rfl) ?_
        refine lv_ishr hx hb dX2_passAir_38 ?_
        refine lv_iconst (v := (1 : Int32)) hx hb dX2_passAir_39 (by decide) ?_
        refine lv_iand hx hb dX2_passAir_40 ?_
        refine lv_iconst (v := (1 : Int32)) hx hb dX2_passAir_41 (by decide) ?_
        refine lv_icmp_ne (tgt := 95) hx hb dX2_passAir_42 (by decide) (fun c_4 => ?_) (fun c_4 => ?_)
        · have hf := zx_neg c_4 hf
          refine lv_iinc (v := (v4 + (1 : Int32))) (lv' := [(4, .int (v4 + (1 : Int32))), (5, .int ((I (zaF j1) v4.toNatClampNeg) - (I (zaF j1) (v4 + (1 : Int32)).toNatClampNeg))), (0, .ref (ad 10)), (1, .ref (ad (zaO j1))), (2, .int v2), (3, .int v3)]) hx hb dX2_passAir_95 hl (k := 5) rfl (congrArg (HAdd.hAdd v4) (by decide)) (by decide) rfl (fun ls hl => ?_)
          refine lv_goto (tgt := 5) hx hb dX2_passAir_98 (by decide) ?_
          exact ih5 v2 v3 (v4 + (1 : Int32)) I _ _ ls hf hG (lv_sub hl [2, 3, 4, 5, 0] rfl)
        · have hf := zx_pos c_4 hf
          refine lv_iload hx hb dX2_passAir_45 (lv_at hl 0 rfl) ?_
          refine va_mabs hx hb (hml.trans hl.1.symm) hown L3 L4 L5 L6 (Nat.le_of_ble_eq_true rfl) (Nat.le_of_ble_eq_true rfl) (Nat.le_refl _) (Nat.le_refl _) dX2_passAir_47 ?_
          refine lv_iconst (v := (2 : Int32)) hx hb dX2_passAir_50 (by decide) ?_
          refine lv_icmp_lt (tgt := 95) hx hb dX2_passAir_51 (by decide) (fun c_5 => ?_) (fun c_5 => ?_)
          · have hf := zx_pos c_5 hf
            refine lv_iinc (v := (v4 + (1 : Int32))) (lv' := [(4, .int (v4 + (1 : Int32))), (5, .int ((I (zaF j1) v4.toNatClampNeg) - (I (zaF j1) (v4 + (1 : Int32)).toNatClampNeg))), (0, .ref (ad 10)), (1, .ref (ad (zaO j1))), (2, .int v2), (3, .int v3)]) hx hb dX2_passAir_95 hl (k := 5) rfl (congrArg (HAdd.hAdd v4) (by decide)) (by decide) rfl (fun ls hl => ?_)
            refine lv_goto (tgt := 5) hx hb dX2_passAir_98 (by decide) ?_
            exact ih5 v2 v3 (v4 + (1 : Int32)) I _ _ ls hf hG (lv_sub hl [2, 3, 4, 5, 0] rfl)
          · have hf := zx_neg c_5 hf
            refine lv_iload hx hb dX2_passAir_54 (lv_at hl 0 rfl) ?_
            refine lv_if_le (tgt := 63) hx hb dX2_passAir_56 (by decide) (fun c_6 => ?_) (fun c_6 => ?_)
            · have hf := zx_pos c_6 hf
              refine lv_iconst (v := (-1 : Int32)) hx hb dX2_passAir_63 (by decide) ?_
              refine lv_istore (lv' := [(6, .int (-1 : Int32)), (5, .int ((I (zaF j1) v4.toNatClampNeg) - (I (zaF j1) (v4 + (1 : Int32)).toNatClampNeg))), (0, .ref (ad 10)), (1, .ref (ad (zaO j1))), (2, .int v2), (3, .int v3), (4, .int v4)]) hx hb dX2_passAir_64 hl (by decide) rfl (fun ls hl => ?_)
              refine lv_aload_n hx hb dX2_passAir_66 rfl (lv_at hl 3 rfl) ?_
              refine zx_getR (d := (zaF j1)) hx hb hts hiX0 hown hG (shX_aO hj1) vc_0 0 (by decide) rfl L2 dX2_passAir_67 ?_
              refine lv_iload hx hb dX2_passAir_70 (lv_at hl 6 rfl) ?_
              refine lv_dup2_11 hx hb dX2_passAir_72 rfl rfl ?_
              refine zx_ald hx hb hG (shX_aF hj1) g_2 dX2_passAir_73 ?_
              refine lv_iload hx hb dX2_passAir_74 (lv_at hl 0 rfl) ?_
              refine lv_isub hx hb dX2_passAir_76 ?_
              refine zx_ast hx hb hG (shX_aF hj1) g_2 dX2_passAir_77 (fun H locs hG => ?_)
              refine lv_aload_n hx hb dX2_passAir_78 rfl (lv_at hl 3 rfl) ?_
              refine zx_getR (d := (zaF j1)) hx hb hts hiX0 hown hG (shX_aO hj1) vc_0 0 (by decide) rfl L2 dX2_passAir_79 ?_
              refine lv_iload hx hb dX2_passAir_82 (lv_at hl 6 rfl) ?_
              refine lv_iconst (v := (1 : Int32)) hx hb dX2_passAir_84 (by decide) ?_
              refine lv_iadd hx hb dX2_passAir_85 ?_
              refine lv_dup2_11 hx hb dX2_passAir_86 rfl rfl ?_
              refine zx_ald hx hb hG (shX_aF hj1) g_3 dX2_passAir_87 ?_
              refine lv_iload hx hb dX2_passAir_88 (lv_at hl 0 rfl) ?_
              refine lv_iadd hx hb dX2_passAir_90 ?_
              refine zx_ast hx hb hG (shX_aF hj1) g_3 dX2_passAir_91 (fun H locs hG => ?_)
              refine lv_iinc (v := (v3 + (1 : Int32))) (lv' := [(3, .int (v3 + (1 : Int32))), (6, .int (-1 : Int32)), (5, .int ((I (zaF j1) v4.toNatClampNeg) - (I (zaF j1) (v4 + (1 : Int32)).toNatClampNeg))), (0, .ref (ad 10)), (1, .ref (ad (zaO j1))), (2, .int v2), (4, .int v4)]) hx hb dX2_passAir_92 hl (k := 5) rfl (congrArg (HAdd.hAdd v3) (by decide)) (by decide) rfl (fun ls hl => ?_)
              refine lv_iinc (v := (v4 + (1 : Int32))) (lv' := [(4, .int (v4 + (1 : Int32))), (3, .int (v3 + (1 : Int32))), (6, .int (-1 : Int32)), (5, .int ((I (zaF j1) v4.toNatClampNeg) - (I (zaF j1) (v4 + (1 : Int32)).toNatClampNeg))), (0, .ref (ad 10)), (1, .ref (ad (zaO j1))), (2, .int v2)]) hx hb dX2_passAir_95 hl (k := 6) rfl (congrArg (HAdd.hAdd v4) (by decide)) (by decide) rfl (fun ls hl => ?_)
              refine lv_goto (tgt := 5) hx hb dX2_passAir_98 (by decide) ?_
              exact ih5 v2 (v3 + (1 : Int32)) (v4 + (1 : Int32)) (zxU (zxU I (zaF j1) v4.toNatClampNeg ((I (zaF j1) v4.toNatClampNeg) - (-1 : Int32))) (zaF j1) (v4 + (1 : Int32)).toNatClampNeg (((zxU I (zaF j1) v4.toNatClampNeg ((I (zaF j1) v4.toNatClampNeg) - (-1 : Int32))) (zaF j1) (v4 + (1 : Int32)).toNatClampNeg) + (-1 : Int32))) _ _ ls hf hG (lv_sub hl [4, 5, 6, 1, 0] rfl)
            · have hf := zx_neg c_6 hf
              refine lv_iconst (v := (1 : Int32)) hx hb dX2_passAir_59 (by decide) ?_
              refine lv_goto (tgt := 64) hx hb dX2_passAir_60 (by decide) ?_
              refine lv_istore (lv' := [(6, .int (1 : Int32)), (5, .int ((I (zaF j1) v4.toNatClampNeg) - (I (zaF j1) (v4 + (1 : Int32)).toNatClampNeg))), (0, .ref (ad 10)), (1, .ref (ad (zaO j1))), (2, .int v2), (3, .int v3), (4, .int v4)]) hx hb dX2_passAir_64 hl (by decide) rfl (fun ls hl => ?_)
              refine lv_aload_n hx hb dX2_passAir_66 rfl (lv_at hl 3 rfl) ?_
              refine zx_getR (d := (zaF j1)) hx hb hts hiX0 hown hG (shX_aO hj1) vc_0 0 (by decide) rfl L2 dX2_passAir_67 ?_
              refine lv_iload hx hb dX2_passAir_70 (lv_at hl 6 rfl) ?_
              refine lv_dup2_11 hx hb dX2_passAir_72 rfl rfl ?_
              refine zx_ald hx hb hG (shX_aF hj1) g_2 dX2_passAir_73 ?_
              refine lv_iload hx hb dX2_passAir_74 (lv_at hl 0 rfl) ?_
              refine lv_isub hx hb dX2_passAir_76 ?_
              refine zx_ast hx hb hG (shX_aF hj1) g_2 dX2_passAir_77 (fun H locs hG => ?_)
              refine lv_aload_n hx hb dX2_passAir_78 rfl (lv_at hl 3 rfl) ?_
              refine zx_getR (d := (zaF j1)) hx hb hts hiX0 hown hG (shX_aO hj1) vc_0 0 (by decide) rfl L2 dX2_passAir_79 ?_
              refine lv_iload hx hb dX2_passAir_82 (lv_at hl 6 rfl) ?_
              refine lv_iconst (v := (1 : Int32)) hx hb dX2_passAir_84 (by decide) ?_
              refine lv_iadd hx hb dX2_passAir_85 ?_
              refine lv_dup2_11 hx hb dX2_passAir_86 rfl rfl ?_
              refine zx_ald hx hb hG (shX_aF hj1) g_3 dX2_passAir_87 ?_
              refine lv_iload hx hb dX2_passAir_88 (lv_at hl 0 rfl) ?_
              refine lv_iadd hx hb dX2_passAir_90 ?_
              refine zx_ast hx hb hG (shX_aF hj1) g_3 dX2_passAir_91 (fun H locs hG => ?_)
              refine lv_iinc (v := (v3 + (1 : Int32))) (lv' := [(3, .int (v3 + (1 : Int32))), (6, .int (1 : Int32)), (5, .int ((I (zaF j1) v4.toNatClampNeg) - (I (zaF j1) (v4 + (1 : Int32)).toNatClampNeg))), (0, .ref (ad 10)), (1, .ref (ad (zaO j1))), (2, .int v2), (4, .int v4)]) hx hb dX2_passAir_92 hl (k := 5) rfl (congrArg (HAdd.hAdd v3) (by decide)) (by decide) rfl (fun ls hl => ?_)
              refine lv_iinc (v := (v4 + (1 : Int32))) (lv' := [(4, .int (v4 + (1 : Int32))), (3, .int (v3 + (1 : Int32))), (6, .int (1 : Int32)), (5, .int ((I (zaF j1) v4.toNatClampNeg) - (I (zaF j1) (v4 + (1 : Int32)).toNatClampNeg))), (0, .ref (ad 10)), (1, .ref (ad (zaO j1))), (2, .int v2)]) hx hb dX2_passAir_95 hl (k := 6) rfl (congrArg (HAdd.hAdd v4) (by decide)) (by decide) rfl (fun ls hl => ?_)
              refine lv_goto (tgt := 5) hx hb dX2_passAir_98 (by decide) ?_
              exact ih5 v2 (v3 + (1 : Int32)) (v4 + (1 : Int32)) (zxU (zxU I (zaF j1) v4.toNatClampNeg ((I (zaF j1) v4.toNatClampNeg) - (1 : Int32))) (zaF j1) (v4 + (1 : Int32)).toNatClampNeg (((zxU I (zaF j1) v4.toNatClampNeg ((I (zaF j1) v4.toNatClampNeg) - (1 : Int32))) (zaF j1) (v4 + (1 : Int32)).toNatClampNeg) + (1 : Int32))) _ _ ls hf hG (lv_sub hl [4, 5, 6, 1, 0] rfl)
  exact loop5 _ x2 (0 : Int32) (0 : Int32) I _ _ ls hf hG (lv_sub hl [2, 3, 4, 1, 0] rfl)

set_option maxHeartbeats 4000000 in
set_option maxRecDepth 100000 in
theorem mX2_dropBirds (l : Launch) (D : va_G) (ad : Nat → Nat) (cA : Nat → ClassId) (j1 : Nat) (hj1 : j1 < 8) (I : zxI) (r : Int32) (J : zxI) (hf : fX2_dropBirds j1 I = some (r, J)) (sz : Nat) : Met l yX2_dropBirds wsX2_dropBirds { frames := 2, cells := 0, slots := 0, locals := 42 } (va_Pc [.ref (ad 10), .ref (ad (zaO j1))] (zxPre D shX ad cA I sz)) (va_Qi (fun (r2 : Int32) (I2 : zxI) => r2 = r ∧ I2 = J) (zxPost D shX ad cA sz) (zxA shX ad sz)) 0 0 (zxA shX ad sz) := by
  refine zx_start (by decide) rfl (Nat.le_of_ble_eq_true rfl) ?_
  intro p e s m args below meth c ls hx hb hr hts hown hlocks hml hG hl
  have hl : lv_has ls 4 [(0, .ref (ad 10)), (1, .ref (ad (zaO j1)))] := hl
  have hiX0 : ∀ w ∈ wsX00, w ∈ wsX2_dropBirds := fun w h => List.mem_cons_of_mem _ (List.mem_append_right _ h)
  have hiX2 : ∀ w ∈ wsX20, w ∈ wsX2_dropBirds := fun w h => List.mem_cons_of_mem _ (List.mem_append_left _ (List.mem_append_right _ h))
  have L1 := hts (Cond.fieldLink RX2 9 "GalleryBirds$Pit" "galleries" "I") (List.mem_of_getElem? (i := 1) rfl)
  have L2 := hts (Cond.fieldLink RX2 70 "GalleryBirds$Air" "down" "I") (List.mem_of_getElem? (i := 3) rfl)
  have L3 := hts (Cond.fieldLink RX2 35 "GalleryBirds$Air" "fouls" "[I") (List.mem_of_getElem? (i := 2) rfl)
  unfold fX2_dropBirds at hf
  refine lv_iconst (v := (0 : Int32)) hx hb dX2_dropBirds_0 (by decide) ?_
  refine lv_istore_n (lv' := [(2, .int (0 : Int32)), (0, .ref (ad 10)), (1, .ref (ad (zaO j1)))]) hx hb dX2_dropBirds_1 rfl hl (by decide) rfl (fun ls hl => ?_)
  refine lv_iconst (v := (0 : Int32)) hx hb dX2_dropBirds_2 (by decide) ?_
  refine lv_istore_n (lv' := [(3, .int (0 : Int32)), (2, .int (0 : Int32)), (0, .ref (ad 10)), (1, .ref (ad (zaO j1)))]) hx hb dX2_dropBirds_3 rfl hl (by decide) rfl (fun ls hl => ?_)
  have loop4 : ∀ (n : Nat) (v2 : Int32) (v3 : Int32) (I : zxI) (H : Heap) (locs : List Loc) (ls : Array Slot), fX2_dropBirds_L4 j1 n v2 v3 I = some (r, J) → zxAt D shX ad cA I s sz H locs → lv_has ls 4 [(0, .ref (ad 10)), (1, .ref (ad (zaO j1))), (2, .int v2), (3, .int v3)] → W p l e (headSpec wsX2_dropBirds { frames := 2, cells := 0, slots := 0, locals := 42 }).room s m args below meth c H locs 0 0 (MQ below (va_Qi (fun (r2 : Int32) (I2 : zxI) => r2 = r ∧ I2 = J) (zxPost D shX ad cA sz) (zxA shX ad sz)) args s 0 0 (zxA shX ad sz)) (F0 m 4 ls []) := by
    intro n
    induction n with
    | zero =>
      intro v2 v3 I H locs ls hf hG hl
      rw [fX2_dropBirds_L4] at hf
      cases hf
    | succ n4 ih4 =>
      intro v2 v3 I H locs ls hf hG hl
      rw [fX2_dropBirds_L4] at hf
      refine lv_iload_n hx hb dX2_dropBirds_4 rfl (lv_at hl 3 rfl) ?_
      refine lv_aload_n hx hb dX2_dropBirds_5 rfl (lv_at hl 0 rfl) ?_
      refine zx_getI hx hb hts hiX2 hown hG shX_10 vc_2 0 (by decide) rfl L1 dX2_dropBirds_6 ?_
      refine lv_icmp_ge (tgt := 46) hx hb dX2_dropBirds_9 (by decide) (fun c_1 => ?_) (fun c_1 => ?_)
      · have hf := zx_pos c_1 hf
        refine lv_aload_n hx hb dX2_dropBirds_46 rfl (lv_at hl 1 rfl) ?_
        refine lv_dup hx hb dX2_dropBirds_47 rfl ?_
        refine zx_getI hx hb hts hiX0 hown hG (shX_aO hj1) vc_0 1 (by decide) rfl L2 dX2_dropBirds_48 ?_
        refine lv_iload_n hx hb dX2_dropBirds_51 rfl (lv_at hl 2 rfl) ?_
        refine lv_ior hx hb dX2_dropBirds_52 ?_
        refine zx_putI hx hb hts hiX0 tyX0 tyX0_ok nmX0 hown hG (shX_aO hj1) vc_0 1 (by decide) rfl L2 rfl (ty := .int) (tyX0_ok 1 (by decide)) rfl rfl dX2_dropBirds_53 (fun H locs hG => ?_)
        refine lv_iload_n hx hb dX2_dropBirds_56 rfl (lv_at hl 2 rfl) ?_
        exact zx_iret hx hb hr hlocks rfl hG hf dX2_dropBirds_57
      · have hf := zx_neg c_1 hf
        refine lv_aload_n hx hb dX2_dropBirds_12 rfl (lv_at hl 1 rfl) ?_
        refine lv_iload_n hx hb dX2_dropBirds_13 rfl (lv_at hl 3 rfl) ?_
        obtain ⟨r_2, I_2, h_2, hf⟩ := zx_b hf
        refine zx_calli (va_runV (As := [.int v3]) (rest := []) ⟨hx, hb, hml, hown, hts⟩ (mX0_isDown l D ad cA j1 hj1 v3 I r_2 I_2 h_2 _) (cwV 1 hts gX2_dropBirds_X0_isDown rfl rfl rfl hd_X0_isDown ⟨Nat.le_of_ble_eq_true rfl, Nat.le_of_ble_eq_true rfl⟩) (zx_preV hG (shX_aO hj1) vc_0) rfl rfl hl.1 rfl (lv_room (Nat.le_of_ble_eq_true rfl)) dX2_dropBirds_14 ⟨Nat.le_refl _, Nat.le_refl _⟩) hG (fun H locs hG => ?_)
        refine lv_if_ne (tgt := 40) hx hb dX2_dropBirds_17 (by decide) (fun c_3 => ?_) (fun c_3 => ?_)
        · have hf := zx_neg c_3 hf
          refine lv_iinc (v := (v3 + (1 : Int32))) (lv' := [(3, .int (v3 + (1 : Int32))), (0, .ref (ad 10)), (1, .ref (ad (zaO j1))), (2, .int v2)]) hx hb dX2_dropBirds_40 hl (k := 3) rfl (congrArg (HAdd.hAdd v3) (by decide)) (by decide) rfl (fun ls hl => ?_)
          refine lv_goto (tgt := 4) hx hb dX2_dropBirds_43 (by decide) ?_
          exact ih4 v2 (v3 + (1 : Int32)) I_2 _ _ ls hf hG (lv_sub hl [1, 2, 3, 0] rfl)
        · have hf := zx_pos c_3 hf
          refine lv_aload_n hx hb dX2_dropBirds_20 rfl (lv_at hl 1 rfl) ?_
          refine zx_getR (d := (zaF j1)) hx hb hts hiX0 hown hG (shX_aO hj1) vc_0 0 (by decide) rfl L3 dX2_dropBirds_21 ?_
          refine lv_iload_n hx hb dX2_dropBirds_24 rfl (lv_at hl 3 rfl) ?_
          obtain ⟨g_4, hf⟩ := zx_in hf
          refine zx_ald hx hb hG (shX_aF hj1) g_4 dX2_dropBirds_25 ?_
          refine lv_aload_n hx hb dX2_dropBirds_26 rfl (lv_at hl 0 rfl) ?_
          refine lv_iload_n hx hb dX2_dropBirds_27 rfl (lv_at hl 3 rfl) ?_
          obtain ⟨r_5, I_5, h_5, hf⟩ := zx_b hf
          refine zx_calli (va_runV (As := [.int v3]) (rest := [.int (I_2 (zaF j1) v3.toNatClampNeg)]) ⟨hx, hb, hml, hown, hts⟩ (mX2_bears l D ad cA v3 I_2 r_5 I_5 h_5 _) (cwV 1 hts gX2_dropBirds_X2_bears rfl rfl rfl hd_X2_bears ⟨Nat.le_of_ble_eq_true rfl, Nat.le_of_ble_eq_true rfl⟩) (zx_preV hG shX_10 vc_2) rfl rfl hl.1 rfl (lv_room (Nat.le_of_ble_eq_true rfl)) dX2_dropBirds_28 ⟨Nat.le_refl _, Nat.le_refl _⟩) hG (fun H locs hG => ?_)
          refine lv_icmp_le (tgt := 40) hx hb dX2_dropBirds_31 (by decide) (fun c_6 => ?_) (fun c_6 => ?_)
          · have hf := zx_pos c_6 hf
            refine lv_iinc (v := (v3 + (1 : Int32))) (lv' := [(3, .int (v3 + (1 : Int32))), (0, .ref (ad 10)), (1, .ref (ad (zaO j1))), (2, .int v2)]) hx hb dX2_dropBirds_40 hl (k := 3) rfl (congrArg (HAdd.hAdd v3) (by decide)) (by decide) rfl (fun ls hl => ?_)
            refine lv_goto (tgt := 4) hx hb dX2_dropBirds_43 (by decide) ?_
            exact ih4 v2 (v3 + (1 : Int32)) I_5 _ _ ls hf hG (lv_sub hl [1, 2, 3, 0] rfl)
          · have hf := zx_neg c_6 hf
            refine lv_iload_n hx hb dX2_dropBirds_34 rfl (lv_at hl 2 rfl) ?_
            refine lv_iconst (v := (1 : Int32)) hx hb dX2_dropBirds_35 (by decide) ?_
            refine lv_iload_n hx hb dX2_dropBirds_36 rfl (lv_at hl 3 rfl) ?_
            refine lv_ishl hx hb dX2_dropBirds_37 ?_
            refine lv_ior hx hb dX2_dropBirds_38 ?_
            refine lv_istore_n (lv' := [(2, .int (v2 ||| ((1 : Int32) <<< (v3 &&& 31)))), (0, .ref (ad 10)), (1, .ref (ad (zaO j1))), (3, .int v3)]) hx hb dX2_dropBirds_39 rfl hl (by decide) rfl (fun ls hl => ?_)
            refine lv_iinc (v := (v3 + (1 : Int32))) (lv' := [(3, .int (v3 + (1 : Int32))), (2, .int (v2 ||| ((1 : Int32) <<< (v3 &&& 31)))), (0, .ref (ad 10)), (1, .ref (ad (zaO j1)))]) hx hb dX2_dropBirds_40 hl (k := 3) rfl (congrArg (HAdd.hAdd v3) (by decide)) (by decide) rfl (fun ls hl => ?_)
            refine lv_goto (tgt := 4) hx hb dX2_dropBirds_43 (by decide) ?_
            exact ih4 (v2 ||| ((1 : Int32) <<< (v3 &&& 31))) (v3 + (1 : Int32)) I_5 _ _ ls hf hG (lv_sub hl [2, 3, 1, 0] rfl)
  exact loop4 _ (0 : Int32) (0 : Int32) I _ _ ls hf hG (lv_sub hl [2, 3, 1, 0] rfl)

set_option maxHeartbeats 4000000 in
set_option maxRecDepth 100000 in
theorem mX2_breatheHushed (l : Launch) (D : va_G) (ad : Nat → Nat) (cA : Nat → ClassId) (j1 : Nat) (hj1 : j1 < 8) (x2 : Int32) (I : zxI) (r : Int32) (J : zxI) (hf : fX2_breatheHushed j1 x2 I = some (r, J)) (sz : Nat) : Met l yX2_breatheHushed wsX2_breatheHushed { frames := 3, cells := 0, slots := 0, locals := 65 } (va_Pc [.ref (ad 10), .ref (ad (zaO j1)), .int x2] (zxPre D shX ad cA I sz)) (va_Qi (fun (r2 : Int32) (I2 : zxI) => r2 = r ∧ I2 = J) (zxPost D shX ad cA sz) (zxA shX ad sz)) 0 0 (zxA shX ad sz) := by
  refine zx_start (by decide) rfl (Nat.le_of_ble_eq_true rfl) ?_
  intro p e s m args below meth c ls hx hb hr hts hown hlocks hml hG hl
  have hl : lv_has ls 3 [(0, .ref (ad 10)), (1, .ref (ad (zaO j1))), (2, .int x2)] := hl
  unfold fX2_breatheHushed at hf
  refine lv_aload_n hx hb dX2_breatheHushed_0 rfl (lv_at hl 0 rfl) ?_
  refine lv_aload_n hx hb dX2_breatheHushed_1 rfl (lv_at hl 1 rfl) ?_
  refine lv_iload_n hx hb dX2_breatheHushed_2 rfl (lv_at hl 2 rfl) ?_
  obtain ⟨r_1, I_1, h_1, hf⟩ := zx_b hf
  refine zx_calli (va_runV (As := [.ref (ad (zaO j1)), .int x2]) (rest := []) ⟨hx, hb, hml, hown, hts⟩ (mX2_passAir l D ad cA j1 hj1 x2 I r_1 I_1 h_1 _) (cwV 2 hts gX2_breatheHushed_X2_passAir rfl rfl rfl hd_X2_passAir ⟨Nat.le_of_ble_eq_true rfl, Nat.le_of_ble_eq_true rfl⟩) (zx_preV hG shX_10 vc_2) rfl rfl hl.1 rfl (lv_room (Nat.le_of_ble_eq_true rfl)) dX2_breatheHushed_3 ⟨Nat.le_refl _, Nat.le_refl _⟩) hG (fun H locs hG => ?_)
  refine lv_pop hx hb dX2_breatheHushed_6 rfl ?_
  refine lv_aload_n hx hb dX2_breatheHushed_7 rfl (lv_at hl 0 rfl) ?_
  refine lv_aload_n hx hb dX2_breatheHushed_8 rfl (lv_at hl 1 rfl) ?_
  obtain ⟨r_2, I_2, h_2, hf⟩ := zx_b hf
  refine zx_calli (va_runV (As := [.ref (ad (zaO j1))]) (rest := []) ⟨hx, hb, hml, hown, hts⟩ (mX2_dropBirds l D ad cA j1 hj1 I_1 r_2 I_2 h_2 _) (cwV 1 hts gX2_breatheHushed_X2_dropBirds rfl rfl rfl hd_X2_dropBirds ⟨Nat.le_of_ble_eq_true rfl, Nat.le_of_ble_eq_true rfl⟩) (zx_preV hG shX_10 vc_2) rfl rfl hl.1 rfl (lv_room (Nat.le_of_ble_eq_true rfl)) dX2_breatheHushed_9 ⟨Nat.le_refl _, Nat.le_refl _⟩) hG (fun H locs hG => ?_)
  exact zx_iret hx hb hr hlocks rfl hG hf dX2_breatheHushed_12

set_option maxHeartbeats 4000000 in
set_option maxRecDepth 100000 in
theorem mX2_breathe (l : Launch) (D : va_G) (ad : Nat → Nat) (cA : Nat → ClassId) (j1 : Nat) (hj1 : j1 < 8) (x2 : Int32) (x3 : Int32) (x4 : Int32) (I : zxI) (r : Int32) (J : zxI) (hf : fX2_breathe j1 x2 x3 x4 I = some (r, J)) (sz : Nat) : Met l yX2_breathe wsX2_breathe { frames := 4, cells := 0, slots := 0, locals := 87 } (va_Pc [.ref (ad 10), .ref (ad (zaO j1)), .int x2, .int x3, .int x4] (zxPre D shX ad cA I sz)) (va_Qi (fun (r2 : Int32) (I2 : zxI) => r2 = r ∧ I2 = J) (zxPost D shX ad cA sz) (zxA shX ad sz)) 0 0 (zxA shX ad sz) := by
  refine zx_start (by decide) rfl (Nat.le_of_ble_eq_true rfl) ?_
  intro p e s m args below meth c ls hx hb hr hts hown hlocks hml hG hl
  have hl : lv_has ls 5 [(0, .ref (ad 10)), (1, .ref (ad (zaO j1))), (2, .int x2), (3, .int x3), (4, .int x4)] := hl
  have hiX0 : ∀ w ∈ wsX00, w ∈ wsX2_breathe := fun w h => List.mem_cons_of_mem _ (List.mem_append_left _ (List.mem_append_right _ h))
  have hiX2 : ∀ w ∈ wsX20, w ∈ wsX2_breathe := fun w h => List.mem_cons_of_mem _ (List.mem_append_right _ h)
  have L1 := hts (Cond.fieldLink RX2 35 "GalleryBirds$Air" "fouls" "[I") (List.mem_of_getElem? (i := 1) rfl)
  have L2 := hts (Cond.fieldLink RX2 18 "GalleryBirds$Pit" "bads" "[I") (List.mem_of_getElem? (i := 2) rfl)
  have L3 := hts (Cond.methodLink RX2 40 Lib.Math.min.name) (List.mem_of_getElem? (i := 3) rfl)
  have L4 := hts (Cond.static Lib.Math.min.name) (List.mem_of_getElem? (i := 4) rfl)
  have L5 := hts (Cond.initialized "java/lang/Math") (List.mem_of_getElem? (i := 5) rfl)
  have L6 := hts (Cond.code Lib.Math.min.name Lib.Math.min.code 2 (some .int)) (List.mem_of_getElem? (i := 6) rfl)
  have L7 := hts (Cond.methodLink RX2 45 Lib.Math.max.name) (List.mem_of_getElem? (i := 7) rfl)
  have L8 := hts (Cond.static Lib.Math.max.name) (List.mem_of_getElem? (i := 8) rfl)
  have L9 := hts (Cond.code Lib.Math.max.name Lib.Math.max.code 2 (some .int)) (List.mem_of_getElem? (i := 9) rfl)
  unfold fX2_breathe at hf
  refine lv_aload_n hx hb dX2_breathe_0 rfl (lv_at hl 1 rfl) ?_
  refine zx_getR (d := (zaF j1)) hx hb hts hiX0 hown hG (shX_aO hj1) vc_0 0 (by decide) rfl L1 dX2_breathe_1 ?_
  refine lv_iload_n hx hb dX2_breathe_4 rfl (lv_at hl 3 rfl) ?_
  refine lv_iconst (v := (0 : Int32)) hx hb dX2_breathe_5 (by decide) ?_
  refine lv_bipush (v := (40 : Int32)) hx hb dX2_breathe_6 (by decide) ?_
  refine lv_aload_n hx hb dX2_breathe_8 rfl (lv_at hl 1 rfl) ?_
  refine zx_getR (d := (zaF j1)) hx hb hts hiX0 hown hG (shX_aO hj1) vc_0 0 (by decide) rfl L1 dX2_breathe_9 ?_
  refine lv_iload_n hx hb dX2_breathe_12 rfl (lv_at hl 3 rfl) ?_
  obtain ⟨g_1, hf⟩ := zx_in hf
  refine zx_ald hx hb hG (shX_aF hj1) g_1 dX2_breathe_13 ?_
  refine lv_aload_n hx hb dX2_breathe_14 rfl (lv_at hl 0 rfl) ?_
  refine zx_getR (d := 11) hx hb hts hiX2 hown hG shX_10 vc_2 2 (by decide) rfl L2 dX2_breathe_15 ?_
  refine lv_iload hx hb dX2_breathe_18 (lv_at hl 4 rfl) ?_
  obtain ⟨g_2, hf⟩ := zx_in hf
  refine zx_ald hx hb hG shX_11 g_2 dX2_breathe_20 ?_
  refine lv_iadd hx hb dX2_breathe_21 ?_
  refine lv_iconst (v := (4 : Int32)) hx hb dX2_breathe_22 (by decide) ?_
  refine lv_isub hx hb dX2_breathe_23 ?_
  refine va_mmin hx hb (hml.trans hl.1.symm) hown L3 L4 L5 L6 (Nat.le_of_ble_eq_true rfl) (Nat.le_of_ble_eq_true rfl) (Nat.le_refl _) (Nat.le_refl _) dX2_breathe_24 ?_
  refine va_mmax hx hb (hml.trans hl.1.symm) hown L7 L8 L5 L9 (Nat.le_of_ble_eq_true rfl) (Nat.le_of_ble_eq_true rfl) (Nat.le_refl _) (Nat.le_refl _) dX2_breathe_27 ?_
  refine zx_ast hx hb hG (shX_aF hj1) g_1 dX2_breathe_30 (fun H locs hG => ?_)
  refine lv_aload_n hx hb dX2_breathe_31 rfl (lv_at hl 0 rfl) ?_
  refine lv_aload_n hx hb dX2_breathe_32 rfl (lv_at hl 1 rfl) ?_
  refine lv_iload_n hx hb dX2_breathe_33 rfl (lv_at hl 2 rfl) ?_
  obtain ⟨r_4, I_4, h_4, hf⟩ := zx_b hf
  refine zx_calli (va_runV (As := [.ref (ad (zaO j1)), .int x2]) (rest := []) ⟨hx, hb, hml, hown, hts⟩ (mX2_breatheHushed l D ad cA j1 hj1 x2 (zxU I (zaF j1) x3.toNatClampNeg (if (0 : Int32) < (if (((I (zaF j1) x3.toNatClampNeg) + (I 11 x4.toNatClampNeg)) - (4 : Int32)) < (40 : Int32) then (((I (zaF j1) x3.toNatClampNeg) + (I 11 x4.toNatClampNeg)) - (4 : Int32)) else (40 : Int32)) then (if (((I (zaF j1) x3.toNatClampNeg) + (I 11 x4.toNatClampNeg)) - (4 : Int32)) < (40 : Int32) then (((I (zaF j1) x3.toNatClampNeg) + (I 11 x4.toNatClampNeg)) - (4 : Int32)) else (40 : Int32)) else (0 : Int32))) r_4 I_4 h_4 _) (cwV 2 hts gX2_breathe_X2_breatheHushed rfl rfl rfl hd_X2_breatheHushed ⟨Nat.le_of_ble_eq_true rfl, Nat.le_of_ble_eq_true rfl⟩) (zx_preV hG shX_10 vc_2) rfl rfl hl.1 rfl (lv_room (Nat.le_of_ble_eq_true rfl)) dX2_breathe_34 ⟨Nat.le_refl _, Nat.le_refl _⟩) hG (fun H locs hG => ?_)
  exact zx_iret hx hb hr hlocks rfl hG hf dX2_breathe_37

set_option maxHeartbeats 4000000 in
set_option maxRecDepth 100000 in
theorem mX3_write (l : Launch) (D : va_G) (ad : Nat → Nat) (cA : Nat → ClassId) (x1 : Int32) (x2 : Int32) (x3 : Int32) (I : zxI) (r : Int32) (J : zxI) (hf : fX3_write x1 x2 x3 I = some (r, J)) (sz : Nat) : Met l yX3_write wsX3_write { frames := 0, cells := 0, slots := 0, locals := 0 } (va_Pc [.ref (ad 31), .int x1, .int x2, .int x3] (zxPre D shX ad cA I sz)) (va_Qi (fun (r2 : Int32) (I2 : zxI) => r2 = r ∧ I2 = J) (zxPost D shX ad cA sz) (zxA shX ad sz)) 0 0 (zxA shX ad sz) := by
  refine zx_start (by decide) rfl (Nat.le_of_ble_eq_true rfl) ?_
  intro p e s m args below meth c ls hx hb hr hts hown hlocks hml hG hl
  have hl : lv_has ls 5 [(0, .ref (ad 31)), (1, .int x1), (2, .int x2), (3, .int x3)] := hl
  have hiX3 : ∀ w ∈ wsX30, w ∈ wsX3_write := fun w h => List.mem_cons_of_mem _ (List.mem_append_right _ h)
  have L1 := hts (Cond.fieldLink RX3 9 "GalleryBirds$Readings" "count" "I") (List.mem_of_getElem? (i := 1) rfl)
  have L2 := hts (Cond.fieldLink RX3 15 "GalleryBirds$Readings" "galleries" "[I") (List.mem_of_getElem? (i := 2) rfl)
  have L3 := hts (Cond.fieldLink RX3 19 "GalleryBirds$Readings" "fouls" "[I") (List.mem_of_getElem? (i := 3) rfl)
  have L4 := hts (Cond.fieldLink RX3 22 "GalleryBirds$Readings" "dropped" "[I") (List.mem_of_getElem? (i := 4) rfl)
  unfold fX3_write at hf
  refine lv_aload_n hx hb dX3_write_0 rfl (lv_at hl 0 rfl) ?_
  refine zx_getI hx hb hts hiX3 hown hG shX_31 vc_3 0 (by decide) rfl L1 dX3_write_1 ?_
  refine lv_istore (lv' := [(4, .int (I 31 0)), (0, .ref (ad 31)), (1, .int x1), (2, .int x2), (3, .int x3)]) hx hb dX3_write_4 hl (by decide) rfl (fun ls hl => ?_)
  refine lv_aload_n hx hb dX3_write_6 rfl (lv_at hl 1 rfl) ?_
  refine zx_getR (d := 32) hx hb hts hiX3 hown hG shX_31 vc_3 1 (by decide) rfl L2 dX3_write_7 ?_
  refine lv_iload hx hb dX3_write_10 (lv_at hl 0 rfl) ?_
  refine lv_iload_n hx hb dX3_write_12 rfl (lv_at hl 2 rfl) ?_
  obtain ⟨g_1, hf⟩ := zx_in hf
  refine zx_ast hx hb hG shX_32 g_1 dX3_write_13 (fun H locs hG => ?_)
  refine lv_aload_n hx hb dX3_write_14 rfl (lv_at hl 1 rfl) ?_
  refine zx_getR (d := 33) hx hb hts hiX3 hown hG shX_31 vc_3 2 (by decide) rfl L3 dX3_write_15 ?_
  refine lv_iload hx hb dX3_write_18 (lv_at hl 0 rfl) ?_
  refine lv_iload_n hx hb dX3_write_20 rfl (lv_at hl 3 rfl) ?_
  refine zx_ast hx hb hG shX_33 g_1 dX3_write_21 (fun H locs hG => ?_)
  refine lv_aload_n hx hb dX3_write_22 rfl (lv_at hl 1 rfl) ?_
  refine zx_getR (d := 34) hx hb hts hiX3 hown hG shX_31 vc_3 3 (by decide) rfl L4 dX3_write_23 ?_
  refine lv_iload hx hb dX3_write_26 (lv_at hl 0 rfl) ?_
  refine lv_iload_n hx hb dX3_write_28 rfl (lv_at hl 4 rfl) ?_
  refine zx_ast hx hb hG shX_34 g_1 dX3_write_29 (fun H locs hG => ?_)
  refine lv_aload_n hx hb dX3_write_30 rfl (lv_at hl 1 rfl) ?_
  refine lv_dup hx hb dX3_write_31 rfl ?_
  refine zx_getI hx hb hts hiX3 hown hG shX_31 vc_3 0 (by decide) rfl L1 dX3_write_32 ?_
  refine lv_iconst (v := (1 : Int32)) hx hb dX3_write_35 (by decide) ?_
  refine lv_iadd hx hb dX3_write_36 ?_
  refine zx_putI hx hb hts hiX3 tyX3 tyX3_ok nmX3 hown hG shX_31 vc_3 0 (by decide) rfl L1 rfl (ty := .int) (tyX3_ok 0 (by decide)) rfl rfl dX3_write_37 (fun H locs hG => ?_)
  refine lv_iload hx hb dX3_write_40 (lv_at hl 0 rfl) ?_
  exact zx_iret hx hb hr hlocks rfl hG hf dX3_write_42

set_option maxHeartbeats 4000000 in
set_option maxRecDepth 100000 in
theorem mX3_areSo (l : Launch) (D : va_G) (ad : Nat → Nat) (cA : Nat → ClassId) (x2 : Int32) (x3 : Int32) (I : zxI) (r : Int32) (J : zxI) (hf : fX3_areSo x2 x3 I = some (r, J)) (sz : Nat) : Met l yX3_areSo wsX3_areSo { frames := 2, cells := 0, slots := 0, locals := 42 } (va_Pc [.ref (ad 31), .ref (ad 10), .int x2, .int x3] (zxPre D shX ad cA I sz)) (va_Qi (fun (r2 : Int32) (I2 : zxI) => r2 = r ∧ I2 = J) (zxPost D shX ad cA sz) (zxA shX ad sz)) 0 0 (zxA shX ad sz) := by
  refine zx_start (by decide) rfl (Nat.le_of_ble_eq_true rfl) ?_
  intro p e s m args below meth c ls hx hb hr hts hown hlocks hml hG hl
  have hl : lv_has ls 7 [(0, .ref (ad 31)), (1, .ref (ad 10)), (2, .int x2), (3, .int x3)] := hl
  have hiX3 : ∀ w ∈ wsX30, w ∈ wsX3_areSo := fun w h => List.mem_cons_of_mem _ (List.mem_append_left _ (List.mem_append_right _ h))
  have L1 := hts (Cond.fieldLink RX3 9 "GalleryBirds$Readings" "count" "I") (List.mem_of_getElem? (i := 1) rfl)
  have L2 := hts (Cond.fieldLink RX3 15 "GalleryBirds$Readings" "galleries" "[I") (List.mem_of_getElem? (i := 2) rfl)
  have L3 := hts (Cond.fieldLink RX3 19 "GalleryBirds$Readings" "fouls" "[I") (List.mem_of_getElem? (i := 3) rfl)
  have L4 := hts (Cond.fieldLink RX3 22 "GalleryBirds$Readings" "dropped" "[I") (List.mem_of_getElem? (i := 4) rfl)
  unfold fX3_areSo at hf
  refine lv_iconst (v := (0 : Int32)) hx hb dX3_areSo_0 (by decide) ?_
  refine lv_istore (lv' := [(4, .int (0 : Int32)), (0, .ref (ad 31)), (1, .ref (ad 10)), (2, .int x2), (3, .int x3)]) hx hb dX3_areSo_1 hl (by decide) rfl (fun ls hl => ?_)
  have loop3 : ∀ (n : Nat) (v2 : Int32) (v3 : Int32) (v4 : Int32) (I : zxI) (H : Heap) (locs : List Loc) (ls : Array Slot), fX3_areSo_L3 n v2 v3 v4 I = some (r, J) → zxAt D shX ad cA I s sz H locs → lv_has ls 7 [(0, .ref (ad 31)), (1, .ref (ad 10)), (2, .int v2), (3, .int v3), (4, .int v4)] → W p l e (headSpec wsX3_areSo { frames := 2, cells := 0, slots := 0, locals := 42 }).room s m args below meth c H locs 0 0 (MQ below (va_Qi (fun (r2 : Int32) (I2 : zxI) => r2 = r ∧ I2 = J) (zxPost D shX ad cA sz) (zxA shX ad sz)) args s 0 0 (zxA shX ad sz)) (F0 m 3 ls []) := by
    intro n
    induction n with
    | zero =>
      intro v2 v3 v4 I H locs ls hf hG hl
      rw [fX3_areSo_L3] at hf
      cases hf
    | succ n3 ih3 =>
      intro v2 v3 v4 I H locs ls hf hG hl
      rw [fX3_areSo_L3] at hf
      refine lv_iload hx hb dX3_areSo_3 (lv_at hl 4 rfl) ?_
      refine lv_aload_n hx hb dX3_areSo_5 rfl (lv_at hl 0 rfl) ?_
      refine zx_getI hx hb hts hiX3 hown hG shX_31 vc_3 0 (by decide) rfl L1 dX3_areSo_6 ?_
      refine lv_icmp_ge (tgt := 79) hx hb dX3_areSo_9 (by decide) (fun c_1 => ?_) (fun c_1 => ?_)
      · have hf := zx_pos c_1 hf
        refine lv_iconst (v := (1 : Int32)) hx hb dX3_areSo_79 (by decide) ?_
        exact zx_iret hx hb hr hlocks rfl hG hf dX3_areSo_80
      · have hf := zx_neg c_1 hf
        refine lv_aload_n hx hb dX3_areSo_12 rfl (lv_at hl 0 rfl) ?_
        refine zx_getR (d := 32) hx hb hts hiX3 hown hG shX_31 vc_3 1 (by decide) rfl L2 dX3_areSo_13 ?_
        refine lv_iload hx hb dX3_areSo_16 (lv_at hl 4 rfl) ?_
        obtain ⟨g_2, hf⟩ := zx_in hf
        refine zx_ald hx hb hG shX_32 g_2 dX3_areSo_18 ?_
        refine lv_iload_n hx hb dX3_areSo_19 rfl (lv_at hl 2 rfl) ?_
        refine lv_icmp_ne (tgt := 27) hx hb dX3_areSo_20 (by decide) (fun c_3 => ?_) (fun c_3 => ?_)
        · have hf := zx_neg c_3 hf
          refine lv_aload_n hx hb dX3_areSo_27 rfl (lv_at hl 1 rfl) ?_
          refine lv_aload_n hx hb dX3_areSo_28 rfl (lv_at hl 0 rfl) ?_
          refine zx_getR (d := 32) hx hb hts hiX3 hown hG shX_31 vc_3 1 (by decide) rfl L2 dX3_areSo_29 ?_
          refine lv_iload hx hb dX3_areSo_32 (lv_at hl 4 rfl) ?_
          refine zx_ald hx hb hG shX_32 g_2 dX3_areSo_34 ?_
          obtain ⟨r_5, I_5, h_5, hf⟩ := zx_b hf
          refine zx_calli (va_runV (As := [.int (I 32 v4.toNatClampNeg)]) (rest := []) ⟨hx, hb, hml, hown, hts⟩ (mX2_bears l D ad cA (I 32 v4.toNatClampNeg) I r_5 I_5 h_5 _) (cwV 1 hts gX3_areSo_X2_bears rfl rfl rfl hd_X2_bears ⟨Nat.le_of_ble_eq_true rfl, Nat.le_of_ble_eq_true rfl⟩) (zx_preV hG shX_10 vc_2) rfl rfl hl.1 rfl (lv_room (Nat.le_of_ble_eq_true rfl)) dX3_areSo_35 ⟨Nat.le_refl _, Nat.le_refl _⟩) hG (fun H locs hG => ?_)
          refine lv_istore (lv' := [(5, .int r_5), (0, .ref (ad 31)), (1, .ref (ad 10)), (2, .int v2), (3, .int v3), (4, .int v4)]) hx hb dX3_areSo_38 hl (by decide) rfl (fun ls hl => ?_)
          refine lv_aload_n hx hb dX3_areSo_40 rfl (lv_at hl 1 rfl) ?_
          refine zx_getR (d := 33) hx hb hts hiX3 hown hG shX_31 vc_3 2 (by decide) rfl L3 dX3_areSo_41 ?_
          refine lv_iload hx hb dX3_areSo_44 (lv_at hl 5 rfl) ?_
          refine zx_ald hx hb hG shX_33 g_2 dX3_areSo_46 ?_
          refine lv_iload hx hb dX3_areSo_47 (lv_at hl 0 rfl) ?_
          refine lv_icmp_le (tgt := 56) hx hb dX3_areSo_49 (by decide) (fun c_7 => ?_) (fun c_7 => ?_)
          · have hf := zx_pos c_7 hf
            refine lv_iconst (v := (0 : Int32)) hx hb dX3_areSo_56 (by decide) ?_
            refine lv_istore (lv' := [(6, .int (0 : Int32)), (5, .int r_5), (0, .ref (ad 31)), (1, .ref (ad 10)), (2, .int v2), (3, .int v3), (4, .int v4)]) hx hb dX3_areSo_57 hl (by decide) rfl (fun ls hl => ?_)
            refine lv_iload hx hb dX3_areSo_59 (lv_at hl 0 rfl) ?_
            refine lv_aload_n hx hb dX3_areSo_61 rfl (lv_at hl 2 rfl) ?_
            refine zx_getR (d := 34) hx hb hts hiX3 hown hG shX_31 vc_3 3 (by decide) rfl L4 dX3_areSo_62 ?_
            refine lv_iload hx hb dX3_areSo_65 (lv_at hl 6 rfl) ?_
            refine zx_ald hx hb hG shX_34 g_2 dX3_areSo_67 ?_
            refine lv_icmp_eq (tgt := 73) hx hb dX3_areSo_68 (by decide) (fun c_9 => ?_) (fun c_9 => ?_)
            · have hf := zx_pos c_9 hf
              refine lv_iinc (v := (v4 + (1 : Int32))) (lv' := [(4, .int (v4 + (1 : Int32))), (6, .int (0 : Int32)), (5, .int r_5), (0, .ref (ad 31)), (1, .ref (ad 10)), (2, .int v2), (3, .int v3)]) hx hb dX3_areSo_73 hl (k := 6) rfl (congrArg (HAdd.hAdd v4) (by decide)) (by decide) rfl (fun ls hl => ?_)
              refine lv_goto (tgt := 3) hx hb dX3_areSo_76 (by decide) ?_
              exact ih3 v2 v3 (v4 + (1 : Int32)) I_5 _ _ ls hf hG (lv_sub hl [3, 4, 5, 6, 0] rfl)
            · have hf := zx_neg c_9 hf
              refine lv_iconst (v := (0 : Int32)) hx hb dX3_areSo_71 (by decide) ?_
              exact zx_iret hx hb hr hlocks rfl hG hf dX3_areSo_72
          · have hf := zx_neg c_7 hf
            refine lv_iconst (v := (1 : Int32)) hx hb dX3_areSo_52 (by decide) ?_
            refine lv_goto (tgt := 57) hx hb dX3_areSo_53 (by decide) ?_
            refine lv_istore (lv' := [(6, .int (1 : Int32)), (5, .int r_5), (0, .ref (ad 31)), (1, .ref (ad 10)), (2, .int v2), (3, .int v3), (4, .int v4)]) hx hb dX3_areSo_57 hl (by decide) rfl (fun ls hl => ?_)
            refine lv_iload hx hb dX3_areSo_59 (lv_at hl 0 rfl) ?_
            refine lv_aload_n hx hb dX3_areSo_61 rfl (lv_at hl 2 rfl) ?_
            refine zx_getR (d := 34) hx hb hts hiX3 hown hG shX_31 vc_3 3 (by decide) rfl L4 dX3_areSo_62 ?_
            refine lv_iload hx hb dX3_areSo_65 (lv_at hl 6 rfl) ?_
            refine zx_ald hx hb hG shX_34 g_2 dX3_areSo_67 ?_
            refine lv_icmp_eq (tgt := 73) hx hb dX3_areSo_68 (by decide) (fun c_11 => ?_) (fun c_11 => ?_)
            · have hf := zx_pos c_11 hf
              refine lv_iinc (v := (v4 + (1 : Int32))) (lv' := [(4, .int (v4 + (1 : Int32))), (6, .int (1 : Int32)), (5, .int r_5), (0, .ref (ad 31)), (1, .ref (ad 10)), (2, .int v2), (3, .int v3)]) hx hb dX3_areSo_73 hl (k := 6) rfl (congrArg (HAdd.hAdd v4) (by decide)) (by decide) rfl (fun ls hl => ?_)
              refine lv_goto (tgt := 3) hx hb dX3_areSo_76 (by decide) ?_
              exact ih3 v2 v3 (v4 + (1 : Int32)) I_5 _ _ ls hf hG (lv_sub hl [3, 4, 5, 6, 0] rfl)
            · have hf := zx_neg c_11 hf
              refine lv_iconst (v := (0 : Int32)) hx hb dX3_areSo_71 (by decide) ?_
              exact zx_iret hx hb hr hlocks rfl hG hf dX3_areSo_72
        · have hf := zx_pos c_3 hf
          refine lv_iload_n hx hb dX3_areSo_23 rfl (lv_at hl 3 rfl) ?_
          refine lv_goto (tgt := 38) hx hb dX3_areSo_24 (by decide) ?_
          refine lv_istore (lv' := [(5, .int v3), (0, .ref (ad 31)), (1, .ref (ad 10)), (2, .int v2), (3, .int v3), (4, .int v4)]) hx hb dX3_areSo_38 hl (by decide) rfl (fun ls hl => ?_)
          refine lv_aload_n hx hb dX3_areSo_40 rfl (lv_at hl 1 rfl) ?_
          refine zx_getR (d := 33) hx hb hts hiX3 hown hG shX_31 vc_3 2 (by decide) rfl L3 dX3_areSo_41 ?_
          refine lv_iload hx hb dX3_areSo_44 (lv_at hl 5 rfl) ?_
          refine zx_ald hx hb hG shX_33 g_2 dX3_areSo_46 ?_
          refine lv_iload hx hb dX3_areSo_47 (lv_at hl 0 rfl) ?_
          refine lv_icmp_le (tgt := 56) hx hb dX3_areSo_49 (by decide) (fun c_13 => ?_) (fun c_13 => ?_)
          · have hf := zx_pos c_13 hf
            refine lv_iconst (v := (0 : Int32)) hx hb dX3_areSo_56 (by decide) ?_
            refine lv_istore (lv' := [(6, .int (0 : Int32)), (5, .int v3), (0, .ref (ad 31)), (1, .ref (ad 10)), (2, .int v2), (3, .int v3), (4, .int v4)]) hx hb dX3_areSo_57 hl (by decide) rfl (fun ls hl => ?_)
            refine lv_iload hx hb dX3_areSo_59 (lv_at hl 0 rfl) ?_
            refine lv_aload_n hx hb dX3_areSo_61 rfl (lv_at hl 2 rfl) ?_
            refine zx_getR (d := 34) hx hb hts hiX3 hown hG shX_31 vc_3 3 (by decide) rfl L4 dX3_areSo_62 ?_
            refine lv_iload hx hb dX3_areSo_65 (lv_at hl 6 rfl) ?_
            refine zx_ald hx hb hG shX_34 g_2 dX3_areSo_67 ?_
            refine lv_icmp_eq (tgt := 73) hx hb dX3_areSo_68 (by decide) (fun c_15 => ?_) (fun c_15 => ?_)
            · have hf := zx_pos c_15 hf
              refine lv_iinc (v := (v4 + (1 : Int32))) (lv' := [(4, .int (v4 + (1 : Int32))), (6, .int (0 : Int32)), (5, .int v3), (0, .ref (ad 31)), (1, .ref (ad 10)), (2, .int v2), (3, .int v3)]) hx hb dX3_areSo_73 hl (k := 6) rfl (congrArg (HAdd.hAdd v4) (by decide)) (by decide) rfl (fun ls hl => ?_)
              refine lv_goto (tgt := 3) hx hb dX3_areSo_76 (by decide) ?_
              exact ih3 v2 v3 (v4 + (1 : Int32)) I _ _ ls hf hG (lv_sub hl [3, 4, 5, 6, 0] rfl)
            · have hf := zx_neg c_15 hf
              refine lv_iconst (v := (0 : Int32)) hx hb dX3_areSo_71 (by decide) ?_
              exact zx_iret hx hb hr hlocks rfl hG hf dX3_areSo_72
          · have hf := zx_neg c_13 hf
            refine lv_iconst (v := (1 : Int32)) hx hb dX3_areSo_52 (by decide) ?_
            refine lv_goto (tgt := 57) hx hb dX3_areSo_53 (by decide) ?_
            refine lv_istore (lv' := [(6, .int (1 : Int32)), (5, .int v3), (0, .ref (ad 31)), (1, .ref (ad 10)), (2, .int v2), (3, .int v3), (4, .int v4)]) hx hb dX3_areSo_57 hl (by decide) rfl (fun ls hl => ?_)
            refine lv_iload hx hb dX3_areSo_59 (lv_at hl 0 rfl) ?_
            refine lv_aload_n hx hb dX3_areSo_61 rfl (lv_at hl 2 rfl) ?_
            refine zx_getR (d := 34) hx hb hts hiX3 hown hG shX_31 vc_3 3 (by decide) rfl L4 dX3_areSo_62 ?_
            refine lv_iload hx hb dX3_areSo_65 (lv_at hl 6 rfl) ?_
            refine zx_ald hx hb hG shX_34 g_2 dX3_areSo_67 ?_
            refine lv_icmp_eq (tgt := 73) hx hb dX3_areSo_68 (by decide) (fun c_17 => ?_) (fun c_17 => ?_)
            · have hf := zx_pos c_17 hf
              refine lv_iinc (v := (v4 + (1 : Int32))) (lv' := [(4, .int (v4 + (1 : Int32))), (6, .int (1 : Int32)), (5, .int v3), (0, .ref (ad 31)), (1, .ref (ad 10)), (2, .int v2), (3, .int v3)]) hx hb dX3_areSo_73 hl (k := 6) rfl (congrArg (HAdd.hAdd v4) (by decide)) (by decide) rfl (fun ls hl => ?_)
              refine lv_goto (tgt := 3) hx hb dX3_areSo_76 (by decide) ?_
              exact ih3 v2 v3 (v4 + (1 : Int32)) I _ _ ls hf hG (lv_sub hl [3, 4, 5, 6, 0] rfl)
            · have hf := zx_neg c_17 hf
              refine lv_iconst (v := (0 : Int32)) hx hb dX3_areSo_71 (by decide) ?_
              exact zx_iret hx hb hr hlocks rfl hG hf dX3_areSo_72
  exact loop3 _ x2 x3 (0 : Int32) I _ _ ls hf hG (lv_sub hl [1, 2, 3, 4, 0] rfl)

set_option maxHeartbeats 4000000 in
set_option maxRecDepth 100000 in
theorem mX4_keep (l : Launch) (D : va_G) (ad : Nat → Nat) (cA : Nat → ClassId) (x1 : Int32) (I : zxI) (J : zxI) (hf : fX4_keep x1 I = some J) (sz : Nat) : Met l yX4_keep wsX4_keep { frames := 1, cells := 0, slots := 0, locals := 60 } (va_Pc [.ref (ad 39), .int x1] (zxPre D shX ad cA I sz)) (va_Qv (fun (I2 : zxI) => I2 = J) (zxPost D shX ad cA sz) (zxA shX ad sz)) 0 0 (zxA shX ad sz) := by
  refine zx_start (by decide) rfl (Nat.le_of_ble_eq_true rfl) ?_
  intro p e s m args below meth c ls hx hb hr hts hown hlocks hml hG hl
  have hl : lv_has ls 2 [(0, .ref (ad 39)), (1, .int x1)] := hl
  have hiX4 : ∀ w ∈ wsX40, w ∈ wsX4_keep := fun w h => List.mem_cons_of_mem _ (List.mem_append_right _ h)
  have L1 := hts (Cond.fieldLink RX4 18 "GalleryBirds$Seating" "most" "I") (List.mem_of_getElem? (i := 1) rfl)
  have L2 := hts (Cond.fieldLink RX4 9 "GalleryBirds$Seating" "row" "[I") (List.mem_of_getElem? (i := 2) rfl)
  have L3 := hts (Cond.fieldLink RX4 15 "GalleryBirds$Seating" "best" "[I") (List.mem_of_getElem? (i := 3) rfl)
  have L4 := hts (Cond.methodLink RX4 22 arraycopyName) (List.mem_of_getElem? (i := 4) rfl)
  have L5 := hts (Cond.native arraycopyName) (List.mem_of_getElem? (i := 5) rfl)
  have L6 := hts (Cond.static arraycopyName) (List.mem_of_getElem? (i := 6) rfl)
  have L7 := hts (Cond.initialized "java/lang/System") (List.mem_of_getElem? (i := 7) rfl)
  unfold fX4_keep at hf
  refine lv_aload_n hx hb dX4_keep_0 rfl (lv_at hl 0 rfl) ?_
  refine lv_iload_n hx hb dX4_keep_1 rfl (lv_at hl 1 rfl) ?_
  refine zx_putI hx hb hts hiX4 tyX4 tyX4_ok nmX4 hown hG shX_39 vc_4 2 (by decide) rfl L1 rfl (ty := .int) (tyX4_ok 2 (by decide)) rfl rfl dX4_keep_2 (fun H locs hG => ?_)
  refine lv_aload_n hx hb dX4_keep_5 rfl (lv_at hl 0 rfl) ?_
  refine zx_getR (d := 40) hx hb hts hiX4 hown hG shX_39 vc_4 0 (by decide) rfl L2 dX4_keep_6 ?_
  refine lv_iconst (v := (0 : Int32)) hx hb dX4_keep_9 (by decide) ?_
  refine lv_aload_n hx hb dX4_keep_10 rfl (lv_at hl 0 rfl) ?_
  refine zx_getR (d := 41) hx hb hts hiX4 hown hG shX_39 vc_4 1 (by decide) rfl L3 dX4_keep_11 ?_
  refine lv_iconst (v := (0 : Int32)) hx hb dX4_keep_14 (by decide) ?_
  refine lv_bipush (v := (6 : Int32)) hx hb dX4_keep_15 (by decide) ?_
  obtain ⟨⟨g_1, g_2, g_3, g_4, g_5⟩, hf⟩ := zx_gd hf
  refine zx_copy hx hb (hml.trans hl.1.symm) hown L4 L5 L6 L7 hG shX_40 shX_41 g_1 g_2 g_3 g_4 g_5 (Nat.le_of_ble_eq_true rfl) (Nat.le_of_ble_eq_true rfl) dX4_keep_17 (fun H locs hG => ?_)
  exact zx_vret hx hb hr hlocks hG hf dX4_keep_20

set_option maxHeartbeats 4000000 in
set_option maxRecDepth 100000 in
theorem mX5_begin (l : Launch) (D : va_G) (ad : Nat → Nat) (cA : Nat → ClassId) (k0 : Nat) (hk0 : k0 < 4) (x1 : Int32) (x2 : Int32) (I : zxI) (J : zxI) (hf : fX5_begin k0 x1 x2 I = some J) (sz : Nat) : Met l yX5_begin wsX5_begin { frames := 0, cells := 0, slots := 0, locals := 0 } (va_Pc [.ref (ad (zsO k0)), .int x1, .int x2] (zxPre D shX ad cA I sz)) (va_Qv (fun (I2 : zxI) => I2 = J) (zxPost D shX ad cA sz) (zxA shX ad sz)) 0 0 (zxA shX ad sz) := by
  refine zx_start (by decide) rfl (Nat.le_of_ble_eq_true rfl) ?_
  intro p e s m args below meth c ls hx hb hr hts hown hlocks hml hG hl
  have hl : lv_has ls 4 [(0, .ref (ad (zsO k0))), (1, .int x1), (2, .int x2)] := hl
  have hiX5 : ∀ w ∈ wsX50, w ∈ wsX5_begin := fun w h => List.mem_cons_of_mem _ (List.mem_append_right _ h)
  have L1 := hts (Cond.fieldLink RX5 9 "GalleryBirds$Sheet" "has" "Z") (List.mem_of_getElem? (i := 1) rfl)
  have L2 := hts (Cond.fieldLink RX5 15 "GalleryBirds$Sheet" "lane" "I") (List.mem_of_getElem? (i := 2) rfl)
  have L3 := hts (Cond.fieldLink RX5 23 "GalleryBirds$Sheet" "count" "I") (List.mem_of_getElem? (i := 3) rfl)
  have L4 := hts (Cond.fieldLink RX5 19 "GalleryBirds$Sheet" "cells" "[I") (List.mem_of_getElem? (i := 4) rfl)
  unfold fX5_begin at hf
  refine lv_aload_n hx hb dX5_begin_0 rfl (lv_at hl 0 rfl) ?_
  refine lv_iconst (v := (1 : Int32)) hx hb dX5_begin_1 (by decide) ?_
  refine zx_putI hx hb hts hiX5 tyX5 tyX5_ok nmX5 hown hG (shX_sO hk0) vc_5 0 (by decide) rfl L1 rfl (ty := .boolean) (tyX5_ok 0 (by decide)) rfl rfl dX5_begin_2 (fun H locs hG => ?_)
  refine lv_aload_n hx hb dX5_begin_5 rfl (lv_at hl 0 rfl) ?_
  refine lv_iload_n hx hb dX5_begin_6 rfl (lv_at hl 1 rfl) ?_
  refine zx_putI hx hb hts hiX5 tyX5 tyX5_ok nmX5 hown hG (shX_sO hk0) vc_5 1 (by decide) rfl L2 rfl (ty := .int) (tyX5_ok 1 (by decide)) rfl rfl dX5_begin_7 (fun H locs hG => ?_)
  refine lv_aload_n hx hb dX5_begin_10 rfl (lv_at hl 0 rfl) ?_
  refine lv_iload_n hx hb dX5_begin_11 rfl (lv_at hl 2 rfl) ?_
  refine zx_putI hx hb hts hiX5 tyX5 tyX5_ok nmX5 hown hG (shX_sO hk0) vc_5 3 (by decide) rfl L3 rfl (ty := .int) (tyX5_ok 3 (by decide)) rfl rfl dX5_begin_12 (fun H locs hG => ?_)
  refine lv_iconst (v := (0 : Int32)) hx hb dX5_begin_15 (by decide) ?_
  refine lv_istore_n (lv' := [(3, .int (0 : Int32)), (0, .ref (ad (zsO k0))), (1, .int x1), (2, .int x2)]) hx hb dX5_begin_16 rfl hl (by decide) rfl (fun ls hl => ?_)
  have loop17 : ∀ (n : Nat) (v3 : Int32) (I : zxI) (H : Heap) (locs : List Loc) (ls : Array Slot), fX5_begin_L17 k0 n v3 I = some J → zxAt D shX ad cA I s sz H locs → lv_has ls 4 [(0, .ref (ad (zsO k0))), (3, .int v3)] → W p l e (headSpec wsX5_begin { frames := 0, cells := 0, slots := 0, locals := 0 }).room s m args below meth c H locs 0 0 (MQ below (va_Qv (fun (I2 : zxI) => I2 = J) (zxPost D shX ad cA sz) (zxA shX ad sz)) args s 0 0 (zxA shX ad sz)) (F0 m 17 ls []) := by
    intro n
    induction n with
    | zero =>
      intro v3 I H locs ls hf hG hl
      rw [fX5_begin_L17] at hf
      cases hf
    | succ n17 ih17 =>
      intro v3 I H locs ls hf hG hl
      rw [fX5_begin_L17] at hf
      refine lv_iload_n hx hb dX5_begin_17 rfl (lv_at hl 1 rfl) ?_
      refine lv_bipush (v := (60 : Int32)) hx hb dX5_begin_18 (by decide) ?_
      refine lv_icmp_ge (tgt := 36) hx hb dX5_begin_20 (by decide) (fun c_1 => ?_) (fun c_1 => ?_)
      · have hf := zx_pos c_1 hf
        exact zx_vret hx hb hr hlocks hG hf dX5_begin_36
      · have hf := zx_neg c_1 hf
        refine lv_aload_n hx hb dX5_begin_23 rfl (lv_at hl 0 rfl) ?_
        refine zx_getR (d := (zsC k0)) hx hb hts hiX5 hown hG (shX_sO hk0) vc_5 2 (by decide) rfl L4 dX5_begin_24 ?_
        refine lv_iload_n hx hb dX5_begin_27 rfl (lv_at hl 1 rfl) ?_
        refine lv_iconst (v := (0 : Int32)) hx hb dX5_begin_28 (by decide) ?_
        obtain ⟨g_2, hf⟩ := zx_in hf
        refine zx_ast hx hb hG (shX_sC hk0) g_2 dX5_begin_29 (fun H locs hG => ?_)
        refine lv_iinc (v := (v3 + (1 : Int32))) (lv' := [(3, .int (v3 + (1 : Int32))), (0, .ref (ad (zsO k0)))]) hx hb dX5_begin_30 hl (k := 1) rfl (congrArg (HAdd.hAdd v3) (by decide)) (by decide) rfl (fun ls hl => ?_)
        refine lv_goto (tgt := 17) hx hb dX5_begin_33 (by decide) ?_
        exact ih17 (v3 + (1 : Int32)) (zxU I (zsC k0) v3.toNatClampNeg (0 : Int32)) _ _ ls hf hG (lv_sub hl [1, 0] rfl)
  exact loop17 _ (0 : Int32) (zxU (zxU (zxU I (zsO k0) 0 (1 : Int32)) (zsO k0) 1 x1) (zsO k0) 3 x2) _ _ ls hf hG (lv_sub hl [1, 0] rfl)

set_option maxHeartbeats 4000000 in
set_option maxRecDepth 100000 in
theorem mX5_hasCells (l : Launch) (D : va_G) (ad : Nat → Nat) (cA : Nat → ClassId) (k0 : Nat) (hk0 : k0 < 4) (x1 : Int32) (x2 : Int32) (I : zxI) (r : Int32) (J : zxI) (hf : fX5_hasCells k0 x1 x2 I = some (r, J)) (sz : Nat) : Met l yX5_hasCells wsX5_hasCells { frames := 0, cells := 0, slots := 0, locals := 0 } (va_Pc [.ref (ad (zsO k0)), .int x1, .int x2] (zxPre D shX ad cA I sz)) (va_Qi (fun (r2 : Int32) (I2 : zxI) => r2 = r ∧ I2 = J) (zxPost D shX ad cA sz) (zxA shX ad sz)) 0 0 (zxA shX ad sz) := by
  refine zx_start (by decide) rfl (Nat.le_of_ble_eq_true rfl) ?_
  intro p e s m args below meth c ls hx hb hr hts hown hlocks hml hG hl
  have hl : lv_has ls 3 [(0, .ref (ad (zsO k0))), (1, .int x1), (2, .int x2)] := hl
  have hiX5 : ∀ w ∈ wsX50, w ∈ wsX5_hasCells := fun w h => List.mem_cons_of_mem _ (List.mem_append_right _ h)
  have L1 := hts (Cond.fieldLink RX5 23 "GalleryBirds$Sheet" "count" "I") (List.mem_of_getElem? (i := 1) rfl)
  unfold fX5_hasCells at hf
  refine lv_iload_n hx hb dX5_hasCells_0 rfl (lv_at hl 1 rfl) ?_
  refine lv_if_lt (tgt := 26) hx hb dX5_hasCells_1 (by decide) (fun c_1 => ?_) (fun c_1 => ?_)
  · have hf := zx_pos c_1 hf
    refine lv_iconst (v := (0 : Int32)) hx hb dX5_hasCells_26 (by decide) ?_
    exact zx_iret hx hb hr hlocks rfl hG hf dX5_hasCells_27
  · have hf := zx_neg c_1 hf
    refine lv_iload_n hx hb dX5_hasCells_4 rfl (lv_at hl 1 rfl) ?_
    refine lv_aload_n hx hb dX5_hasCells_5 rfl (lv_at hl 0 rfl) ?_
    refine zx_getI hx hb hts hiX5 hown hG (shX_sO hk0) vc_5 3 (by decide) rfl L1 dX5_hasCells_6 ?_
    refine lv_icmp_gt (tgt := 26) hx hb dX5_hasCells_9 (by decide) (fun c_2 => ?_) (fun c_2 => ?_)
    · have hf := zx_pos c_2 hf
      refine lv_iconst (v := (0 : Int32)) hx hb dX5_hasCells_26 (by decide) ?_
      exact zx_iret hx hb hr hlocks rfl hG hf dX5_hasCells_27
    · have hf := zx_neg c_2 hf
      refine lv_iload_n hx hb dX5_hasCells_12 rfl (lv_at hl 2 rfl) ?_
      refine lv_aload_n hx hb dX5_hasCells_13 rfl (lv_at hl 0 rfl) ?_
      refine zx_getI hx hb hts hiX5 hown hG (shX_sO hk0) vc_5 3 (by decide) rfl L1 dX5_hasCells_14 ?_
      refine lv_iload_n hx hb dX5_hasCells_17 rfl (lv_at hl 1 rfl) ?_
      refine lv_isub hx hb dX5_hasCells_18 ?_
      refine lv_icmp_gt (tgt := 26) hx hb dX5_hasCells_19 (by decide) (fun c_3 => ?_) (fun c_3 => ?_)
      · have hf := zx_pos c_3 hf
        refine lv_iconst (v := (0 : Int32)) hx hb dX5_hasCells_26 (by decide) ?_
        exact zx_iret hx hb hr hlocks rfl hG hf dX5_hasCells_27
      · have hf := zx_neg c_3 hf
        refine lv_iconst (v := (1 : Int32)) hx hb dX5_hasCells_22 (by decide) ?_
        refine lv_goto (tgt := 27) hx hb dX5_hasCells_23 (by decide) ?_
        exact zx_iret hx hb hr hlocks rfl hG hf dX5_hasCells_27

set_option maxHeartbeats 4000000 in
set_option maxRecDepth 100000 in
theorem mX5_faultOfCells (l : Launch) (D : va_G) (ad : Nat → Nat) (cA : Nat → ClassId) (k0 : Nat) (hk0 : k0 < 4) (x1 : Int32) (x2 : Int32) (x3 : Int32) (I : zxI) (r : Int32) (J : zxI) (hf : fX5_faultOfCells k0 x1 x2 x3 I = some (r, J)) (sz : Nat) : Met l yX5_faultOfCells wsX5_faultOfCells { frames := 1, cells := 0, slots := 0, locals := 22 } (va_Pc [.ref (ad (zsO k0)), .int x1, .int x2, .int x3] (zxPre D shX ad cA I sz)) (va_Qi (fun (r2 : Int32) (I2 : zxI) => r2 = r ∧ I2 = J) (zxPost D shX ad cA sz) (zxA shX ad sz)) 0 0 (zxA shX ad sz) := by
  refine zx_start (by decide) rfl (Nat.le_of_ble_eq_true rfl) ?_
  intro p e s m args below meth c ls hx hb hr hts hown hlocks hml hG hl
  have hl : lv_has ls 4 [(0, .ref (ad (zsO k0))), (1, .int x1), (2, .int x2), (3, .int x3)] := hl
  have hiX5 : ∀ w ∈ wsX50, w ∈ wsX5_faultOfCells := fun w h => List.mem_cons_of_mem _ (List.mem_append_right _ h)
  have L1 := hts (Cond.fieldLink RX5 9 "GalleryBirds$Sheet" "has" "Z") (List.mem_of_getElem? (i := 1) rfl)
  have L2 := hts (Cond.fieldLink RX5 15 "GalleryBirds$Sheet" "lane" "I") (List.mem_of_getElem? (i := 2) rfl)
  unfold fX5_faultOfCells at hf
  refine lv_aload_n hx hb dX5_faultOfCells_0 rfl (lv_at hl 0 rfl) ?_
  refine zx_getI hx hb hts hiX5 hown hG (shX_sO hk0) vc_5 0 (by decide) rfl L1 dX5_faultOfCells_1 ?_
  refine lv_if_ne (tgt := 9) hx hb dX5_faultOfCells_4 (by decide) (fun c_1 => ?_) (fun c_1 => ?_)
  · have hf := zx_neg c_1 hf
    refine lv_aload_n hx hb dX5_faultOfCells_9 rfl (lv_at hl 0 rfl) ?_
    refine zx_getI hx hb hts hiX5 hown hG (shX_sO hk0) vc_5 1 (by decide) rfl L2 dX5_faultOfCells_10 ?_
    refine lv_iload_n hx hb dX5_faultOfCells_13 rfl (lv_at hl 1 rfl) ?_
    refine lv_icmp_eq (tgt := 19) hx hb dX5_faultOfCells_14 (by decide) (fun c_2 => ?_) (fun c_2 => ?_)
    · have hf := zx_pos c_2 hf
      refine lv_iload_n hx hb dX5_faultOfCells_19 rfl (lv_at hl 3 rfl) ?_
      refine lv_if_ge (tgt := 25) hx hb dX5_faultOfCells_20 (by decide) (fun c_3 => ?_) (fun c_3 => ?_)
      · have hf := zx_pos c_3 hf
        refine lv_aload_n hx hb dX5_faultOfCells_25 rfl (lv_at hl 0 rfl) ?_
        refine lv_iload_n hx hb dX5_faultOfCells_26 rfl (lv_at hl 2 rfl) ?_
        refine lv_iload_n hx hb dX5_faultOfCells_27 rfl (lv_at hl 3 rfl) ?_
        obtain ⟨r_4, I_4, h_4, hf⟩ := zx_b hf
        refine zx_calli (va_runV (As := [.int x2, .int x3]) (rest := []) ⟨hx, hb, hml, hown, hts⟩ (mX5_hasCells l D ad cA k0 hk0 x2 x3 I r_4 I_4 h_4 _) (cwV 2 hts gX5_faultOfCells_X5_hasCells rfl rfl rfl hd_X5_hasCells ⟨Nat.le_of_ble_eq_true rfl, Nat.le_of_ble_eq_true rfl⟩) (zx_preV hG (shX_sO hk0) vc_5) rfl rfl hl.1 rfl (lv_room (Nat.le_of_ble_eq_true rfl)) dX5_faultOfCells_28 ⟨Nat.le_refl _, Nat.le_refl _⟩) hG (fun H locs hG => ?_)
        refine lv_if_eq (tgt := 38) hx hb dX5_faultOfCells_31 (by decide) (fun c_5 => ?_) (fun c_5 => ?_)
        · have hf := zx_pos c_5 hf
          refine lv_iconst (v := (3 : Int32)) hx hb dX5_faultOfCells_38 (by decide) ?_
          exact zx_iret hx hb hr hlocks rfl hG hf dX5_faultOfCells_39
        · have hf := zx_neg c_5 hf
          refine lv_iconst (v := (0 : Int32)) hx hb dX5_faultOfCells_34 (by decide) ?_
          refine lv_goto (tgt := 39) hx hb dX5_faultOfCells_35 (by decide) ?_
          exact zx_iret hx hb hr hlocks rfl hG hf dX5_faultOfCells_39
      · have hf := zx_neg c_3 hf
        refine lv_iconst (v := (4 : Int32)) hx hb dX5_faultOfCells_23 (by decide) ?_
        exact zx_iret hx hb hr hlocks rfl hG hf dX5_faultOfCells_24
    · have hf := zx_neg c_2 hf
      refine lv_iconst (v := (2 : Int32)) hx hb dX5_faultOfCells_17 (by decide) ?_
      exact zx_iret hx hb hr hlocks rfl hG hf dX5_faultOfCells_18
  · have hf := zx_pos c_1 hf
    refine lv_iconst (v := (1 : Int32)) hx hb dX5_faultOfCells_7 (by decide) ?_
    exact zx_iret hx hb hr hlocks rfl hG hf dX5_faultOfCells_8

set_option maxHeartbeats 4000000 in
set_option maxRecDepth 100000 in
theorem mX6_isSheet (l : Launch) (D : va_G) (ad : Nat → Nat) (cA : Nat → ClassId) (x0 : Int32) (I : zxI) (r : Int32) (J : zxI) (hf : fX6_isSheet x0 I = some (r, J)) (sz : Nat) : Met l yX6_isSheet wsX6_isSheet { frames := 0, cells := 0, slots := 0, locals := 0 } (va_Pc [.int x0] (zxPre D shX ad cA I sz)) (va_Qi (fun (r2 : Int32) (I2 : zxI) => r2 = r ∧ I2 = J) (zxPost D shX ad cA sz) (zxA shX ad sz)) 0 0 (zxA shX ad sz) := by
  refine zx_start (by decide) rfl (Nat.le_of_ble_eq_true rfl) ?_
  intro p e s m args below meth c ls hx hb hr hts hown hlocks hml hG hl
  have hl : lv_has ls 1 [(0, .int x0)] := hl
  unfold fX6_isSheet at hf
  refine lv_iload_n hx hb dX6_isSheet_0 rfl (lv_at hl 0 rfl) ?_
  refine lv_if_lt (tgt := 13) hx hb dX6_isSheet_1 (by decide) (fun c_1 => ?_) (fun c_1 => ?_)
  · have hf := zx_pos c_1 hf
    refine lv_iconst (v := (0 : Int32)) hx hb dX6_isSheet_13 (by decide) ?_
    exact zx_iret hx hb hr hlocks rfl hG hf dX6_isSheet_14
  · have hf := zx_neg c_1 hf
    refine lv_iload_n hx hb dX6_isSheet_4 rfl (lv_at hl 0 rfl) ?_
    refine lv_iconst (v := (4 : Int32)) hx hb dX6_isSheet_5 (by decide) ?_
    refine lv_icmp_ge (tgt := 13) hx hb dX6_isSheet_6 (by decide) (fun c_2 => ?_) (fun c_2 => ?_)
    · have hf := zx_pos c_2 hf
      refine lv_iconst (v := (0 : Int32)) hx hb dX6_isSheet_13 (by decide) ?_
      exact zx_iret hx hb hr hlocks rfl hG hf dX6_isSheet_14
    · have hf := zx_neg c_2 hf
      refine lv_iconst (v := (1 : Int32)) hx hb dX6_isSheet_9 (by decide) ?_
      refine lv_goto (tgt := 14) hx hb dX6_isSheet_10 (by decide) ?_
      exact zx_iret hx hb hr hlocks rfl hG hf dX6_isSheet_14

set_option maxHeartbeats 4000000 in
set_option maxRecDepth 100000 in
theorem mX6_isLane (l : Launch) (D : va_G) (ad : Nat → Nat) (cA : Nat → ClassId) (x0 : Int32) (I : zxI) (r : Int32) (J : zxI) (hf : fX6_isLane x0 I = some (r, J)) (sz : Nat) : Met l yX6_isLane wsX6_isLane { frames := 0, cells := 0, slots := 0, locals := 0 } (va_Pc [.int x0] (zxPre D shX ad cA I sz)) (va_Qi (fun (r2 : Int32) (I2 : zxI) => r2 = r ∧ I2 = J) (zxPost D shX ad cA sz) (zxA shX ad sz)) 0 0 (zxA shX ad sz) := by
  refine zx_start (by decide) rfl (Nat.le_of_ble_eq_true rfl) ?_
  intro p e s m args below meth c ls hx hb hr hts hown hlocks hml hG hl
  have hl : lv_has ls 1 [(0, .int x0)] := hl
  unfold fX6_isLane at hf
  refine lv_iload_n hx hb dX6_isLane_0 rfl (lv_at hl 0 rfl) ?_
  refine lv_if_lt (tgt := 13) hx hb dX6_isLane_1 (by decide) (fun c_1 => ?_) (fun c_1 => ?_)
  · have hf := zx_pos c_1 hf
    refine lv_iconst (v := (0 : Int32)) hx hb dX6_isLane_13 (by decide) ?_
    exact zx_iret hx hb hr hlocks rfl hG hf dX6_isLane_14
  · have hf := zx_neg c_1 hf
    refine lv_iload_n hx hb dX6_isLane_4 rfl (lv_at hl 0 rfl) ?_
    refine lv_iconst (v := (3 : Int32)) hx hb dX6_isLane_5 (by decide) ?_
    refine lv_icmp_ge (tgt := 13) hx hb dX6_isLane_6 (by decide) (fun c_2 => ?_) (fun c_2 => ?_)
    · have hf := zx_pos c_2 hf
      refine lv_iconst (v := (0 : Int32)) hx hb dX6_isLane_13 (by decide) ?_
      exact zx_iret hx hb hr hlocks rfl hG hf dX6_isLane_14
    · have hf := zx_neg c_2 hf
      refine lv_iconst (v := (1 : Int32)) hx hb dX6_isLane_9 (by decide) ?_
      refine lv_goto (tgt := 14) hx hb dX6_isLane_10 (by decide) ?_
      exact zx_iret hx hb hr hlocks rfl hG hf dX6_isLane_14

set_option maxHeartbeats 4000000 in
set_option maxRecDepth 100000 in
theorem mX6_faulted (l : Launch) (D : va_G) (ad : Nat → Nat) (cA : Nat → ClassId) (x1 : Int32) (I : zxI) (r : Int32) (J : zxI) (hf : fX6_faulted x1 I = some (r, J)) (sz : Nat) : Met l yX6_faulted wsX6_faulted { frames := 0, cells := 0, slots := 0, locals := 0 } (va_Pc [.ref (ad 0), .int x1] (zxPre D shX ad cA I sz)) (va_Qi (fun (r2 : Int32) (I2 : zxI) => r2 = r ∧ I2 = J) (zxPost D shX ad cA sz) (zxA shX ad sz)) 0 0 (zxA shX ad sz) := by
  refine zx_start (by decide) rfl (Nat.le_of_ble_eq_true rfl) ?_
  intro p e s m args below meth c ls hx hb hr hts hown hlocks hml hG hl
  have hl : lv_has ls 2 [(0, .ref (ad 0)), (1, .int x1)] := hl
  have hiX6 : ∀ w ∈ wsX60, w ∈ wsX6_faulted := fun w h => List.mem_cons_of_mem _ (List.mem_append_right _ h)
  have L1 := hts (Cond.fieldLink RX6 67 "GalleryBirds" "lastFault" "I") (List.mem_of_getElem? (i := 1) rfl)
  unfold fX6_faulted at hf
  refine lv_aload_n hx hb dX6_faulted_0 rfl (lv_at hl 0 rfl) ?_
  refine lv_iload_n hx hb dX6_faulted_1 rfl (lv_at hl 1 rfl) ?_
  refine zx_putI hx hb hts hiX6 tyX6 tyX6_ok nmX6 hown hG shX_0 vc_6 10 (by decide) rfl L1 rfl (ty := .int) (tyX6_ok 10 (by decide)) rfl rfl dX6_faulted_2 (fun H locs hG => ?_)
  refine lv_bipush (v := (-10 : Int32)) hx hb dX6_faulted_5 (by decide) ?_
  refine lv_iload_n hx hb dX6_faulted_7 rfl (lv_at hl 1 rfl) ?_
  refine lv_isub hx hb dX6_faulted_8 ?_
  exact zx_iret hx hb hr hlocks rfl hG hf dX6_faulted_9

set_option maxHeartbeats 4000000 in
set_option maxRecDepth 100000 in
theorem mX6_isDigit (l : Launch) (D : va_G) (ad : Nat → Nat) (cA : Nat → ClassId) (x0 : Int32) (x1 : Int32) (x2 : Int32) (I : zxI) (r : Int32) (J : zxI) (hf : fX6_isDigit x0 x1 x2 I = some (r, J)) (sz : Nat) : Met l yX6_isDigit wsX6_isDigit { frames := 0, cells := 0, slots := 0, locals := 0 } (va_Pc [.int x0, .int x1, .int x2] (zxPre D shX ad cA I sz)) (va_Qi (fun (r2 : Int32) (I2 : zxI) => r2 = r ∧ I2 = J) (zxPost D shX ad cA sz) (zxA shX ad sz)) 0 0 (zxA shX ad sz) := by
  refine zx_start (by decide) rfl (Nat.le_of_ble_eq_true rfl) ?_
  intro p e s m args below meth c ls hx hb hr hts hown hlocks hml hG hl
  have hl : lv_has ls 3 [(0, .int x0), (1, .int x1), (2, .int x2)] := hl
  unfold fX6_isDigit at hf
  refine lv_iload_n hx hb dX6_isDigit_0 rfl (lv_at hl 0 rfl) ?_
  refine lv_bipush (v := (48 : Int32)) hx hb dX6_isDigit_1 (by decide) ?_
  refine lv_iload_n hx hb dX6_isDigit_3 rfl (lv_at hl 1 rfl) ?_
  refine lv_iadd hx hb dX6_isDigit_4 ?_
  refine lv_icmp_lt (tgt := 20) hx hb dX6_isDigit_5 (by decide) (fun c_1 => ?_) (fun c_1 => ?_)
  · have hf := zx_pos c_1 hf
    refine lv_iconst (v := (0 : Int32)) hx hb dX6_isDigit_20 (by decide) ?_
    exact zx_iret hx hb hr hlocks rfl hG hf dX6_isDigit_21
  · have hf := zx_neg c_1 hf
    refine lv_iload_n hx hb dX6_isDigit_8 rfl (lv_at hl 0 rfl) ?_
    refine lv_bipush (v := (48 : Int32)) hx hb dX6_isDigit_9 (by decide) ?_
    refine lv_iload_n hx hb dX6_isDigit_11 rfl (lv_at hl 2 rfl) ?_
    refine lv_iadd hx hb dX6_isDigit_12 ?_
    refine lv_icmp_gt (tgt := 20) hx hb dX6_isDigit_13 (by decide) (fun c_2 => ?_) (fun c_2 => ?_)
    · have hf := zx_pos c_2 hf
      refine lv_iconst (v := (0 : Int32)) hx hb dX6_isDigit_20 (by decide) ?_
      exact zx_iret hx hb hr hlocks rfl hG hf dX6_isDigit_21
    · have hf := zx_neg c_2 hf
      refine lv_iconst (v := (1 : Int32)) hx hb dX6_isDigit_16 (by decide) ?_
      refine lv_goto (tgt := 21) hx hb dX6_isDigit_17 (by decide) ?_
      exact zx_iret hx hb hr hlocks rfl hG hf dX6_isDigit_21

set_option maxHeartbeats 4000000 in
set_option maxRecDepth 100000 in
theorem mX6_wordsOfText (l : Launch) (D : va_G) (ad : Nat → Nat) (cA : Nat → ClassId) (k0 : Nat) (hk0 : k0 < 4) (x1 : Int32) (x2 : Int32) (I : zxI) (r : Int32) (J : zxI) (hf : fX6_wordsOfText k0 x1 x2 I = some (r, J)) (sz : Nat) : Met l yX6_wordsOfText wsX6_wordsOfText { frames := 1, cells := 0, slots := 0, locals := 22 } (va_Pc [.ref (ad (zsC k0)), .int x1, .int x2] (zxPre D shX ad cA I sz)) (va_Qi (fun (r2 : Int32) (I2 : zxI) => r2 = r ∧ I2 = J) (zxPost D shX ad cA sz) (zxA shX ad sz)) 0 0 (zxA shX ad sz) := by
  refine zx_start (by decide) rfl (Nat.le_of_ble_eq_true rfl) ?_
  intro p e s m args below meth c ls hx hb hr hts hown hlocks hml hG hl
  have hl : lv_has ls 4 [(0, .ref (ad (zsC k0))), (1, .int x1), (2, .int x2)] := hl
  unfold fX6_wordsOfText at hf
  refine lv_iconst (v := (0 : Int32)) hx hb dX6_wordsOfText_0 (by decide) ?_
  refine lv_istore_n (lv' := [(3, .int (0 : Int32)), (0, .ref (ad (zsC k0))), (1, .int x1), (2, .int x2)]) hx hb dX6_wordsOfText_1 rfl hl (by decide) rfl (fun ls hl => ?_)
  have loop2 : ∀ (n : Nat) (v1 : Int32) (v2 : Int32) (v3 : Int32) (I : zxI) (H : Heap) (locs : List Loc) (ls : Array Slot), fX6_wordsOfText_L2 k0 n v1 v2 v3 I = some (r, J) → zxAt D shX ad cA I s sz H locs → lv_has ls 4 [(0, .ref (ad (zsC k0))), (1, .int v1), (2, .int v2), (3, .int v3)] → W p l e (headSpec wsX6_wordsOfText { frames := 1, cells := 0, slots := 0, locals := 22 }).room s m args below meth c H locs 0 0 (MQ below (va_Qi (fun (r2 : Int32) (I2 : zxI) => r2 = r ∧ I2 = J) (zxPost D shX ad cA sz) (zxA shX ad sz)) args s 0 0 (zxA shX ad sz)) (F0 m 2 ls []) := by
    intro n
    induction n with
    | zero =>
      intro v1 v2 v3 I H locs ls hf hG hl
      rw [fX6_wordsOfText_L2] at hf
      cases hf
    | succ n2 ih2 =>
      intro v1 v2 v3 I H locs ls hf hG hl
      rw [fX6_wordsOfText_L2] at hf
      refine lv_iload_n hx hb dX6_wordsOfText_2 rfl (lv_at hl 3 rfl) ?_
      refine lv_iconst (v := (4 : Int32)) hx hb dX6_wordsOfText_3 (by decide) ?_
      refine lv_icmp_ge (tgt := 36) hx hb dX6_wordsOfText_4 (by decide) (fun c_1 => ?_) (fun c_1 => ?_)
      · have hf := zx_pos c_1 hf
        refine lv_iload_n hx hb dX6_wordsOfText_36 rfl (lv_at hl 3 rfl) ?_
        exact zx_iret hx hb hr hlocks rfl hG hf dX6_wordsOfText_37
      · have hf := zx_neg c_1 hf
        refine lv_iconst (v := (1 : Int32)) hx hb dX6_wordsOfText_7 (by decide) ?_
        refine lv_iload_n hx hb dX6_wordsOfText_8 rfl (lv_at hl 3 rfl) ?_
        refine lv_iadd hx hb dX6_wordsOfText_9 ?_
        refine lv_iload_n hx hb dX6_wordsOfText_10 rfl (lv_at hl 2 rfl) ?_
        refine lv_icmp_ge (tgt := 36) hx hb dX6_wordsOfText_11 (by decide) (fun c_2 => ?_) (fun c_2 => ?_)
        · have hf := zx_pos c_2 hf
          refine lv_iload_n hx hb dX6_wordsOfText_36 rfl (lv_at hl 3 rfl) ?_
          exact zx_iret hx hb hr hlocks rfl hG hf dX6_wordsOfText_37
        · have hf := zx_neg c_2 hf
          refine lv_aload_n hx hb dX6_wordsOfText_14 rfl (lv_at hl 0 rfl) ?_
          refine lv_iload_n hx hb dX6_wordsOfText_15 rfl (lv_at hl 1 rfl) ?_
          refine lv_iconst (v := (1 : Int32)) hx hb dX6_wordsOfText_16 (by decide) ?_
          refine lv_iadd hx hb dX6_wordsOfText_17 ?_
          refine lv_iload_n hx hb dX6_wordsOfText_18 rfl (lv_at hl 3 rfl) ?_
          refine lv_iadd hx hb dX6_wordsOfText_19 ?_
          obtain ⟨g_3, hf⟩ := zx_in hf
          refine zx_ald hx hb hG (shX_sC hk0) g_3 dX6_wordsOfText_20 ?_
          refine lv_iconst (v := (0 : Int32)) hx hb dX6_wordsOfText_21 (by decide) ?_
          refine lv_bipush (v := (9 : Int32)) hx hb dX6_wordsOfText_22 (by decide) ?_
          obtain ⟨r_4, I_4, h_4, hf⟩ := zx_b hf
          refine zx_calli (va_runS (As := [.int (I (zsC k0) ((v1 + (1 : Int32)) + v3).toNatClampNeg), .int (0 : Int32), .int (9 : Int32)]) (rest := []) ⟨hx, hb, hml, hown, hts⟩ (mX6_isDigit l D ad cA (I (zsC k0) ((v1 + (1 : Int32)) + v3).toNatClampNeg) (0 : Int32) (9 : Int32) I r_4 I_4 h_4 _) (va_cwS 3 hts gX6_wordsOfText_X6_isDigit rfl rfl rfl hd_X6_isDigit ⟨Nat.le_of_ble_eq_true rfl, Nat.le_of_ble_eq_true rfl⟩) (zx_preS hG) rfl rfl hl.1 rfl (lv_room (Nat.le_of_ble_eq_true rfl)) dX6_wordsOfText_24 ⟨Nat.le_refl _, Nat.le_refl _⟩) hG (fun H locs hG => ?_)
          refine lv_if_eq (tgt := 36) hx hb dX6_wordsOfText_27 (by decide) (fun c_5 => ?_) (fun c_5 => ?_)
          · have hf := zx_pos c_5 hf
            refine lv_iload_n hx hb dX6_wordsOfText_36 rfl (lv_at hl 3 rfl) ?_
            exact zx_iret hx hb hr hlocks rfl hG hf dX6_wordsOfText_37
          · have hf := zx_neg c_5 hf
            refine lv_iinc (v := (v3 + (1 : Int32))) (lv' := [(3, .int (v3 + (1 : Int32))), (0, .ref (ad (zsC k0))), (1, .int v1), (2, .int v2)]) hx hb dX6_wordsOfText_30 hl (k := 3) rfl (congrArg (HAdd.hAdd v3) (by decide)) (by decide) rfl (fun ls hl => ?_)
            refine lv_goto (tgt := 2) hx hb dX6_wordsOfText_33 (by decide) ?_
            exact ih2 v1 v2 (v3 + (1 : Int32)) I_4 _ _ ls hf hG (lv_sub hl [1, 2, 3, 0] rfl)
  exact loop2 _ x1 x2 (0 : Int32) I _ _ ls hf hG (lv_sub hl [1, 2, 3, 0] rfl)

set_option maxHeartbeats 4000000 in
set_option maxRecDepth 100000 in
theorem mX6_kindOfLetter (l : Launch) (D : va_G) (ad : Nat → Nat) (cA : Nat → ClassId) (x0 : Int32) (I : zxI) (r : Int32) (J : zxI) (hf : fX6_kindOfLetter x0 I = some (r, J)) (sz : Nat) : Met l yX6_kindOfLetter wsX6_kindOfLetter { frames := 0, cells := 0, slots := 0, locals := 0 } (va_Pc [.int x0] (zxPre D shX ad cA I sz)) (va_Qi (fun (r2 : Int32) (I2 : zxI) => r2 = r ∧ I2 = J) (zxPost D shX ad cA sz) (zxA shX ad sz)) 0 0 (zxA shX ad sz) := by
  refine zx_start (by decide) rfl (Nat.le_of_ble_eq_true rfl) ?_
  intro p e s m args below meth c ls hx hb hr hts hown hlocks hml hG hl
  have hl : lv_has ls 1 [(0, .int x0)] := hl
  unfold fX6_kindOfLetter at hf
  refine lv_iload_n hx hb dX6_kindOfLetter_0 rfl (lv_at hl 0 rfl) ?_
  by_cases c_1 : x0 = (98 : Int32)
  · have hf := zx_pos c_1 hf
    refine lv_lookup (off := 39) (tgt := 40) hx hb dX6_kindOfLetter_1 (by decide) (by rw [c_1]; decide) (by decide) ?_
    refine lv_iconst (v := (2 : Int32)) hx hb dX6_kindOfLetter_40 (by decide) ?_
    exact zx_iret hx hb hr hlocks rfl hG hf dX6_kindOfLetter_41
  have hf := zx_neg c_1 hf
  by_cases c_2 : x0 = (103 : Int32)
  · have hf := zx_pos c_2 hf
    refine lv_lookup (off := 35) (tgt := 36) hx hb dX6_kindOfLetter_1 (by decide) (by rw [c_2]; decide) (by decide) ?_
    refine lv_iconst (v := (0 : Int32)) hx hb dX6_kindOfLetter_36 (by decide) ?_
    exact zx_iret hx hb hr hlocks rfl hG hf dX6_kindOfLetter_37
  have hf := zx_neg c_2 hf
  by_cases c_3 : x0 = (110 : Int32)
  · have hf := zx_pos c_3 hf
    refine lv_lookup (off := 37) (tgt := 38) hx hb dX6_kindOfLetter_1 (by decide) (by rw [c_3]; decide) (by decide) ?_
    refine lv_iconst (v := (1 : Int32)) hx hb dX6_kindOfLetter_38 (by decide) ?_
    exact zx_iret hx hb hr hlocks rfl hG hf dX6_kindOfLetter_39
  have hf := zx_neg c_3 hf
  refine lv_lookup (off := 41) (tgt := 42) hx hb dX6_kindOfLetter_1 (by decide) (zx_lk1 (zx_neI (by decide) c_1) (zx_lk1 (zx_neI (by decide) c_2) (zx_lk1 (zx_neI (by decide) c_3) (zx_lk0)))) (by decide) ?_
  refine lv_bipush (v := (-9 : Int32)) hx hb dX6_kindOfLetter_42 (by decide) ?_
  exact zx_iret hx hb hr hlocks rfl hG hf dX6_kindOfLetter_44

set_option maxHeartbeats 4000000 in
set_option maxRecDepth 100000 in
theorem mX6_fitsGallery (l : Launch) (D : va_G) (ad : Nat → Nat) (cA : Nat → ClassId) (x0 : Int32) (x1 : Int32) (I : zxI) (r : Int32) (J : zxI) (hf : fX6_fitsGallery x0 x1 I = some (r, J)) (sz : Nat) : Met l yX6_fitsGallery wsX6_fitsGallery { frames := 1, cells := 0, slots := 0, locals := 22 } (va_Pc [.int x0, .int x1] (zxPre D shX ad cA I sz)) (va_Qi (fun (r2 : Int32) (I2 : zxI) => r2 = r ∧ I2 = J) (zxPost D shX ad cA sz) (zxA shX ad sz)) 0 0 (zxA shX ad sz) := by
  refine zx_start (by decide) rfl (Nat.le_of_ble_eq_true rfl) ?_
  intro p e s m args below meth c ls hx hb hr hts hown hlocks hml hG hl
  have hl : lv_has ls 2 [(0, .int x0), (1, .int x1)] := hl
  unfold fX6_fitsGallery at hf
  refine lv_iload_n hx hb dX6_fitsGallery_0 rfl (lv_at hl 0 rfl) ?_
  by_cases c_1 : x0 = (0 : Int32)
  · have hf := zx_pos c_1 hf
    refine lv_tableIn (off := 31) (tgt := 32) hx hb dX6_fitsGallery_1 (by rw [c_1]; decide) (by rw [c_1]; decide) (by rw [c_1]; decide) (by decide) ?_
    refine lv_iload_n hx hb dX6_fitsGallery_32 rfl (lv_at hl 1 rfl) ?_
    refine lv_bipush (v := (59 : Int32)) hx hb dX6_fitsGallery_33 (by decide) ?_
    refine lv_icmp_ne (tgt := 42) hx hb dX6_fitsGallery_35 (by decide) (fun c_5 => ?_) (fun c_5 => ?_)
    · have hf := zx_neg c_5 hf
      refine lv_iconst (v := (0 : Int32)) hx hb dX6_fitsGallery_42 (by decide) ?_
      exact zx_iret hx hb hr hlocks rfl hG hf dX6_fitsGallery_43
    · have hf := zx_pos c_5 hf
      refine lv_iconst (v := (1 : Int32)) hx hb dX6_fitsGallery_38 (by decide) ?_
      refine lv_goto (tgt := 43) hx hb dX6_fitsGallery_39 (by decide) ?_
      exact zx_iret hx hb hr hlocks rfl hG hf dX6_fitsGallery_43
  have hf := zx_neg c_1 hf
  by_cases c_2 : x0 = (1 : Int32)
  · have hf := zx_pos c_2 hf
    refine lv_tableIn (off := 43) (tgt := 44) hx hb dX6_fitsGallery_1 (by rw [c_2]; decide) (by rw [c_2]; decide) (by rw [c_2]; decide) (by decide) ?_
    refine lv_iload_n hx hb dX6_fitsGallery_44 rfl (lv_at hl 1 rfl) ?_
    obtain ⟨r_6, I_6, h_6, hf⟩ := zx_b hf
    refine zx_calli (va_runS (As := [.int x1]) (rest := []) ⟨hx, hb, hml, hown, hts⟩ (mX6_kindOfLetter l D ad cA x1 I r_6 I_6 h_6 _) (va_cwS 1 hts gX6_fitsGallery_X6_kindOfLetter rfl rfl rfl hd_X6_kindOfLetter ⟨Nat.le_of_ble_eq_true rfl, Nat.le_of_ble_eq_true rfl⟩) (zx_preS hG) rfl rfl hl.1 rfl (lv_room (Nat.le_of_ble_eq_true rfl)) dX6_fitsGallery_45 ⟨Nat.le_refl _, Nat.le_refl _⟩) hG (fun H locs hG => ?_)
    refine lv_bipush (v := (-9 : Int32)) hx hb dX6_fitsGallery_48 (by decide) ?_
    refine lv_icmp_eq (tgt := 57) hx hb dX6_fitsGallery_50 (by decide) (fun c_7 => ?_) (fun c_7 => ?_)
    · have hf := zx_pos c_7 hf
      refine lv_iconst (v := (0 : Int32)) hx hb dX6_fitsGallery_57 (by decide) ?_
      exact zx_iret hx hb hr hlocks rfl hG hf dX6_fitsGallery_58
    · have hf := zx_neg c_7 hf
      refine lv_iconst (v := (1 : Int32)) hx hb dX6_fitsGallery_53 (by decide) ?_
      refine lv_goto (tgt := 58) hx hb dX6_fitsGallery_54 (by decide) ?_
      exact zx_iret hx hb hr hlocks rfl hG hf dX6_fitsGallery_58
  have hf := zx_neg c_2 hf
  by_cases c_3 : x0 = (2 : Int32)
  · have hf := zx_pos c_3 hf
    refine lv_tableIn (off := 58) (tgt := 59) hx hb dX6_fitsGallery_1 (by rw [c_3]; decide) (by rw [c_3]; decide) (by rw [c_3]; decide) (by decide) ?_
    refine lv_iload_n hx hb dX6_fitsGallery_59 rfl (lv_at hl 1 rfl) ?_
    refine lv_iconst (v := (0 : Int32)) hx hb dX6_fitsGallery_60 (by decide) ?_
    refine lv_bipush (v := (9 : Int32)) hx hb dX6_fitsGallery_61 (by decide) ?_
    obtain ⟨r_8, I_8, h_8, hf⟩ := zx_b hf
    refine zx_calli (va_runS (As := [.int x1, .int (0 : Int32), .int (9 : Int32)]) (rest := []) ⟨hx, hb, hml, hown, hts⟩ (mX6_isDigit l D ad cA x1 (0 : Int32) (9 : Int32) I r_8 I_8 h_8 _) (va_cwS 3 hts gX6_fitsGallery_X6_isDigit rfl rfl rfl hd_X6_isDigit ⟨Nat.le_of_ble_eq_true rfl, Nat.le_of_ble_eq_true rfl⟩) (zx_preS hG) rfl rfl hl.1 rfl (lv_room (Nat.le_of_ble_eq_true rfl)) dX6_fitsGallery_63 ⟨Nat.le_refl _, Nat.le_refl _⟩) hG (fun H locs hG => ?_)
    obtain ⟨g_9, hf⟩ := zx_gd hf
    exact zx_iret hx hb hr hlocks (zx_nz g_9) hG hf dX6_fitsGallery_66
  have hf := zx_neg c_3 hf
  by_cases c_4 : x0 = (3 : Int32)
  · have hf := zx_pos c_4 hf
    refine lv_tableIn (off := 66) (tgt := 67) hx hb dX6_fitsGallery_1 (by rw [c_4]; decide) (by rw [c_4]; decide) (by rw [c_4]; decide) (by decide) ?_
    refine lv_iload_n hx hb dX6_fitsGallery_67 rfl (lv_at hl 1 rfl) ?_
    refine lv_iconst (v := (1 : Int32)) hx hb dX6_fitsGallery_68 (by decide) ?_
    refine lv_bipush (v := (9 : Int32)) hx hb dX6_fitsGallery_69 (by decide) ?_
    obtain ⟨r_10, I_10, h_10, hf⟩ := zx_b hf
    refine zx_calli (va_runS (As := [.int x1, .int (1 : Int32), .int (9 : Int32)]) (rest := []) ⟨hx, hb, hml, hown, hts⟩ (mX6_isDigit l D ad cA x1 (1 : Int32) (9 : Int32) I r_10 I_10 h_10 _) (va_cwS 3 hts gX6_fitsGallery_X6_isDigit rfl rfl rfl hd_X6_isDigit ⟨Nat.le_of_ble_eq_true rfl, Nat.le_of_ble_eq_true rfl⟩) (zx_preS hG) rfl rfl hl.1 rfl (lv_room (Nat.le_of_ble_eq_true rfl)) dX6_fitsGallery_71 ⟨Nat.le_refl _, Nat.le_refl _⟩) hG (fun H locs hG => ?_)
    obtain ⟨g_11, hf⟩ := zx_gd hf
    exact zx_iret hx hb hr hlocks (zx_nz g_11) hG hf dX6_fitsGallery_74
  have hf := zx_neg c_4 hf
  refine lv_tableOut (tgt := 75) hx hb dX6_fitsGallery_1 (zx_tabOut 3 (by decide) (fun k hk => by rcases (show k = 0 ∨ k = 1 ∨ k = 2 ∨ k = 3 by omega) with rfl | rfl | rfl | rfl <;> assumption)) (by decide) ?_
  refine lv_iload_n hx hb dX6_fitsGallery_75 rfl (lv_at hl 1 rfl) ?_
  refine lv_iconst (v := (0 : Int32)) hx hb dX6_fitsGallery_76 (by decide) ?_
  refine lv_iconst (v := (1 : Int32)) hx hb dX6_fitsGallery_77 (by decide) ?_
  obtain ⟨r_12, I_12, h_12, hf⟩ := zx_b hf
  refine zx_calli (va_runS (As := [.int x1, .int (0 : Int32), .int (1 : Int32)]) (rest := []) ⟨hx, hb, hml, hown, hts⟩ (mX6_isDigit l D ad cA x1 (0 : Int32) (1 : Int32) I r_12 I_12 h_12 _) (va_cwS 3 hts gX6_fitsGallery_X6_isDigit rfl rfl rfl hd_X6_isDigit ⟨Nat.le_of_ble_eq_true rfl, Nat.le_of_ble_eq_true rfl⟩) (zx_preS hG) rfl rfl hl.1 rfl (lv_room (Nat.le_of_ble_eq_true rfl)) dX6_fitsGallery_78 ⟨Nat.le_refl _, Nat.le_refl _⟩) hG (fun H locs hG => ?_)
  obtain ⟨g_13, hf⟩ := zx_gd hf
  exact zx_iret hx hb hr hlocks (zx_nz g_13) hG hf dX6_fitsGallery_81

set_option maxHeartbeats 4000000 in
set_option maxRecDepth 100000 in
theorem mX6_firstFaultOfText (l : Launch) (D : va_G) (ad : Nat → Nat) (cA : Nat → ClassId) (k0 : Nat) (hk0 : k0 < 4) (x1 : Int32) (x2 : Int32) (I : zxI) (r : Int32) (J : zxI) (hf : fX6_firstFaultOfText k0 x1 x2 I = some (r, J)) (sz : Nat) : Met l yX6_firstFaultOfText wsX6_firstFaultOfText { frames := 2, cells := 0, slots := 0, locals := 45 } (va_Pc [.ref (ad (zsC k0)), .int x1, .int x2] (zxPre D shX ad cA I sz)) (va_Qi (fun (r2 : Int32) (I2 : zxI) => r2 = r ∧ I2 = J) (zxPost D shX ad cA sz) (zxA shX ad sz)) 0 0 (zxA shX ad sz) := by
  refine zx_start (by decide) rfl (Nat.le_of_ble_eq_true rfl) ?_
  intro p e s m args below meth c ls hx hb hr hts hown hlocks hml hG hl
  have hl : lv_has ls 7 [(0, .ref (ad (zsC k0))), (1, .int x1), (2, .int x2)] := hl
  unfold fX6_firstFaultOfText at hf
  refine lv_iload_n hx hb dX6_firstFaultOfText_0 rfl (lv_at hl 2 rfl) ?_
  refine lv_if_eq (tgt := 12) hx hb dX6_firstFaultOfText_1 (by decide) (fun c_1 => ?_) (fun c_1 => ?_)
  · have hf := zx_pos c_1 hf
    refine lv_iconst (v := (0 : Int32)) hx hb dX6_firstFaultOfText_12 (by decide) ?_
    exact zx_iret hx hb hr hlocks rfl hG hf dX6_firstFaultOfText_13
  · have hf := zx_neg c_1 hf
    refine lv_aload_n hx hb dX6_firstFaultOfText_4 rfl (lv_at hl 0 rfl) ?_
    refine lv_iload_n hx hb dX6_firstFaultOfText_5 rfl (lv_at hl 1 rfl) ?_
    obtain ⟨g_2, hf⟩ := zx_in hf
    refine zx_ald hx hb hG (shX_sC hk0) g_2 dX6_firstFaultOfText_6 ?_
    refine lv_bipush (v := (109 : Int32)) hx hb dX6_firstFaultOfText_7 (by decide) ?_
    refine lv_icmp_eq (tgt := 14) hx hb dX6_firstFaultOfText_9 (by decide) (fun c_3 => ?_) (fun c_3 => ?_)
    · have hf := zx_pos c_3 hf
      refine lv_aload_n hx hb dX6_firstFaultOfText_14 rfl (lv_at hl 0 rfl) ?_
      refine lv_iload_n hx hb dX6_firstFaultOfText_15 rfl (lv_at hl 1 rfl) ?_
      refine lv_iload_n hx hb dX6_firstFaultOfText_16 rfl (lv_at hl 2 rfl) ?_
      obtain ⟨r_4, I_4, h_4, hf⟩ := zx_b hf
      refine zx_calli (va_runS (As := [.ref (ad (zsC k0)), .int x1, .int x2]) (rest := []) ⟨hx, hb, hml, hown, hts⟩ (mX6_wordsOfText l D ad cA k0 hk0 x1 x2 I r_4 I_4 h_4 _) (va_cwS 3 hts gX6_firstFaultOfText_X6_wordsOfText rfl rfl rfl hd_X6_wordsOfText ⟨Nat.le_of_ble_eq_true rfl, Nat.le_of_ble_eq_true rfl⟩) (zx_preS hG) rfl rfl hl.1 rfl (lv_room (Nat.le_of_ble_eq_true rfl)) dX6_firstFaultOfText_17 ⟨Nat.le_refl _, Nat.le_refl _⟩) hG (fun H locs hG => ?_)
      refine lv_istore_n (lv' := [(3, .int r_4), (0, .ref (ad (zsC k0))), (1, .int x1), (2, .int x2)]) hx hb dX6_firstFaultOfText_20 rfl hl (by decide) rfl (fun ls hl => ?_)
      refine lv_iload_n hx hb dX6_firstFaultOfText_21 rfl (lv_at hl 0 rfl) ?_
      refine lv_if_ne (tgt := 27) hx hb dX6_firstFaultOfText_22 (by decide) (fun c_5 => ?_) (fun c_5 => ?_)
      · have hf := zx_neg c_5 hf
        refine lv_iconst (v := (1 : Int32)) hx hb dX6_firstFaultOfText_27 (by decide) ?_
        refine lv_iload_n hx hb dX6_firstFaultOfText_28 rfl (lv_at hl 0 rfl) ?_
        refine lv_iadd hx hb dX6_firstFaultOfText_29 ?_
        refine lv_istore (lv' := [(4, .int ((1 : Int32) + r_4)), (3, .int r_4), (0, .ref (ad (zsC k0))), (1, .int x1), (2, .int x2)]) hx hb dX6_firstFaultOfText_30 hl (by decide) rfl (fun ls hl => ?_)
        refine lv_iconst (v := (0 : Int32)) hx hb dX6_firstFaultOfText_32 (by decide) ?_
        refine lv_istore (lv' := [(5, .int (0 : Int32)), (4, .int ((1 : Int32) + r_4)), (3, .int r_4), (0, .ref (ad (zsC k0))), (1, .int x1), (2, .int x2)]) hx hb dX6_firstFaultOfText_33 hl (by decide) rfl (fun ls hl => ?_)
        have loop35 : ∀ (n : Nat) (v1 : Int32) (v2 : Int32) (v4 : Int32) (v5 : Int32) (I : zxI) (H : Heap) (locs : List Loc) (ls : Array Slot), fX6_firstFaultOfText_L35 k0 n v1 v2 v4 v5 I = some (r, J) → zxAt D shX ad cA I s sz H locs → lv_has ls 7 [(0, .ref (ad (zsC k0))), (1, .int v1), (2, .int v2), (4, .int v4), (5, .int v5)] → W p l e (headSpec wsX6_firstFaultOfText { frames := 2, cells := 0, slots := 0, locals := 45 }).room s m args below meth c H locs 0 0 (MQ below (va_Qi (fun (r2 : Int32) (I2 : zxI) => r2 = r ∧ I2 = J) (zxPost D shX ad cA sz) (zxA shX ad sz)) args s 0 0 (zxA shX ad sz)) (F0 m 35 ls []) := by
          intro n
          induction n with
          | zero =>
            intro v1 v2 v4 v5 I H locs ls hf hG hl
            rw [fX6_firstFaultOfText_L35] at hf
            cases hf
          | succ n35 ih35 =>
            intro v1 v2 v4 v5 I H locs ls hf hG hl
            rw [fX6_firstFaultOfText_L35] at hf
            refine lv_iload hx hb dX6_firstFaultOfText_35 (lv_at hl 4 rfl) ?_
            refine lv_bipush (v := (6 : Int32)) hx hb dX6_firstFaultOfText_37 (by decide) ?_
            refine lv_icmp_ge (tgt := 104) hx hb dX6_firstFaultOfText_39 (by decide) (fun c_6 => ?_) (fun c_6 => ?_)
            · have hf := zx_pos c_6 hf
              refine lv_iload hx hb dX6_firstFaultOfText_104 (lv_at hl 3 rfl) ?_
              refine lv_iload_n hx hb dX6_firstFaultOfText_106 rfl (lv_at hl 2 rfl) ?_
              refine lv_icmp_ne (tgt := 115) hx hb dX6_firstFaultOfText_107 (by decide) (fun c_7 => ?_) (fun c_7 => ?_)
              · have hf := zx_neg c_7 hf
                refine lv_iload hx hb dX6_firstFaultOfText_115 (lv_at hl 3 rfl) ?_
                exact zx_iret hx hb hr hlocks rfl hG hf dX6_firstFaultOfText_117
              · have hf := zx_pos c_7 hf
                refine lv_bipush (v := (-9 : Int32)) hx hb dX6_firstFaultOfText_110 (by decide) ?_
                refine lv_goto (tgt := 117) hx hb dX6_firstFaultOfText_112 (by decide) ?_
                exact zx_iret hx hb hr hlocks rfl hG hf dX6_firstFaultOfText_117
            · have hf := zx_neg c_6 hf
              refine lv_iload hx hb dX6_firstFaultOfText_42 (lv_at hl 3 rfl) ?_
              refine lv_iload_n hx hb dX6_firstFaultOfText_44 rfl (lv_at hl 2 rfl) ?_
              refine lv_icmp_ne (tgt := 57) hx hb dX6_firstFaultOfText_45 (by decide) (fun c_8 => ?_) (fun c_8 => ?_)
              · have hf := zx_neg c_8 hf
                refine lv_iconst (v := (0 : Int32)) hx hb dX6_firstFaultOfText_57 (by decide) ?_
                refine lv_istore (lv' := [(6, .int (0 : Int32)), (0, .ref (ad (zsC k0))), (1, .int v1), (2, .int v2), (4, .int v4), (5, .int v5)]) hx hb dX6_firstFaultOfText_58 hl (by decide) rfl (fun ls hl => ?_)
                have loop60 : ∀ (n : Nat) (v1 : Int32) (v2 : Int32) (v4 : Int32) (v5 : Int32) (v6 : Int32) (I : zxI) (H : Heap) (locs : List Loc) (ls : Array Slot), fX6_firstFaultOfText_L60 (fun a0 a1 a2 a3 I => (fX6_firstFaultOfText_L35 k0 n35 a0 a1 a2 a3 I)) k0 n v1 v2 v4 v5 v6 I = some (r, J) → zxAt D shX ad cA I s sz H locs → lv_has ls 7 [(0, .ref (ad (zsC k0))), (1, .int v1), (2, .int v2), (4, .int v4), (5, .int v5), (6, .int v6)] → W p l e (headSpec wsX6_firstFaultOfText { frames := 2, cells := 0, slots := 0, locals := 45 }).room s m args below meth c H locs 0 0 (MQ below (va_Qi (fun (r2 : Int32) (I2 : zxI) => r2 = r ∧ I2 = J) (zxPost D shX ad cA sz) (zxA shX ad sz)) args s 0 0 (zxA shX ad sz)) (F0 m 60 ls []) := by
                  intro n
                  induction n with
                  | zero =>
                    intro v1 v2 v4 v5 v6 I H locs ls hf hG hl
                    rw [fX6_firstFaultOfText_L60] at hf
                    cases hf
                  | succ n60 ih60 =>
                    intro v1 v2 v4 v5 v6 I H locs ls hf hG hl
                    rw [fX6_firstFaultOfText_L60] at hf
                    refine lv_iload hx hb dX6_firstFaultOfText_60 (lv_at hl 5 rfl) ?_
                    refine lv_iconst (v := (5 : Int32)) hx hb dX6_firstFaultOfText_62 (by decide) ?_
                    refine lv_icmp_ge (tgt := 98) hx hb dX6_firstFaultOfText_63 (by decide) (fun c_9 => ?_) (fun c_9 => ?_)
                    · have hf := zx_pos c_9 hf
                      refine lv_iinc (v := (v5 + (1 : Int32))) (lv' := [(5, .int (v5 + (1 : Int32))), (0, .ref (ad (zsC k0))), (1, .int v1), (2, .int v2), (4, .int v4), (6, .int v6)]) hx hb dX6_firstFaultOfText_98 hl (k := 4) rfl (congrArg (HAdd.hAdd v5) (by decide)) (by decide) rfl (fun ls hl => ?_)
                      refine lv_goto (tgt := 35) hx hb dX6_firstFaultOfText_101 (by decide) ?_
                      exact ih35 v1 v2 v4 (v5 + (1 : Int32)) I _ _ ls hf hG (lv_sub hl [1, 2, 3, 4, 0] rfl)
                    · have hf := zx_neg c_9 hf
                      refine lv_iload hx hb dX6_firstFaultOfText_66 (lv_at hl 3 rfl) ?_
                      refine lv_iload_n hx hb dX6_firstFaultOfText_68 rfl (lv_at hl 2 rfl) ?_
                      refine lv_icmp_eq (tgt := 86) hx hb dX6_firstFaultOfText_69 (by decide) (fun c_10 => ?_) (fun c_10 => ?_)
                      · have hf := zx_pos c_10 hf
                        refine lv_iload hx hb dX6_firstFaultOfText_86 (lv_at hl 3 rfl) ?_
                        exact zx_iret hx hb hr hlocks rfl hG hf dX6_firstFaultOfText_88
                      · have hf := zx_neg c_10 hf
                        refine lv_iload hx hb dX6_firstFaultOfText_72 (lv_at hl 5 rfl) ?_
                        refine lv_aload_n hx hb dX6_firstFaultOfText_74 rfl (lv_at hl 0 rfl) ?_
                        refine lv_iload_n hx hb dX6_firstFaultOfText_75 rfl (lv_at hl 1 rfl) ?_
                        refine lv_iload hx hb dX6_firstFaultOfText_76 (lv_at hl 3 rfl) ?_
                        refine lv_iadd hx hb dX6_firstFaultOfText_78 ?_
                        obtain ⟨g_11, hf⟩ := zx_in hf
                        refine zx_ald hx hb hG (shX_sC hk0) g_11 dX6_firstFaultOfText_79 ?_
                        obtain ⟨r_12, I_12, h_12, hf⟩ := zx_b hf
                        refine zx_calli (va_runS (As := [.int v6, .int (I (zsC k0) (v1 + v4).toNatClampNeg)]) (rest := []) ⟨hx, hb, hml, hown, hts⟩ (mX6_fitsGallery l D ad cA v6 (I (zsC k0) (v1 + v4).toNatClampNeg) I r_12 I_12 h_12 _) (va_cwS 2 hts gX6_firstFaultOfText_X6_fitsGallery rfl rfl rfl hd_X6_fitsGallery ⟨Nat.le_of_ble_eq_true rfl, Nat.le_of_ble_eq_true rfl⟩) (zx_preS hG) rfl rfl hl.1 rfl (lv_room (Nat.le_of_ble_eq_true rfl)) dX6_firstFaultOfText_80 ⟨Nat.le_refl _, Nat.le_refl _⟩) hG (fun H locs hG => ?_)
                        refine lv_if_ne (tgt := 89) hx hb dX6_firstFaultOfText_83 (by decide) (fun c_13 => ?_) (fun c_13 => ?_)
                        · have hf := zx_neg c_13 hf
                          refine lv_iinc (v := (v4 + (1 : Int32))) (lv' := [(4, .int (v4 + (1 : Int32))), (0, .ref (ad (zsC k0))), (1, .int v1), (2, .int v2), (5, .int v5), (6, .int v6)]) hx hb dX6_firstFaultOfText_89 hl (k := 3) rfl (congrArg (HAdd.hAdd v4) (by decide)) (by decide) rfl (fun ls hl => ?_)
                          refine lv_iinc (v := (v6 + (1 : Int32))) (lv' := [(6, .int (v6 + (1 : Int32))), (4, .int (v4 + (1 : Int32))), (0, .ref (ad (zsC k0))), (1, .int v1), (2, .int v2), (5, .int v5)]) hx hb dX6_firstFaultOfText_92 hl (k := 5) rfl (congrArg (HAdd.hAdd v6) (by decide)) (by decide) rfl (fun ls hl => ?_)
                          refine lv_goto (tgt := 60) hx hb dX6_firstFaultOfText_95 (by decide) ?_
                          exact ih60 v1 v2 (v4 + (1 : Int32)) v5 (v6 + (1 : Int32)) I_12 _ _ ls hf hG (lv_sub hl [2, 3, 4, 1, 5, 0] rfl)
                        · have hf := zx_pos c_13 hf
                          refine lv_iload hx hb dX6_firstFaultOfText_86 (lv_at hl 3 rfl) ?_
                          exact zx_iret hx hb hr hlocks rfl hG hf dX6_firstFaultOfText_88
                exact loop60 _ v1 v2 v4 v5 (0 : Int32) I _ _ ls hf hG (lv_sub hl [1, 2, 3, 4, 5, 0] rfl)
              · have hf := zx_pos c_8 hf
                refine lv_iload hx hb dX6_firstFaultOfText_48 (lv_at hl 4 rfl) ?_
                refine lv_iconst (v := (2 : Int32)) hx hb dX6_firstFaultOfText_50 (by decide) ?_
                refine lv_icmp_lt (tgt := 57) hx hb dX6_firstFaultOfText_51 (by decide) (fun c_14 => ?_) (fun c_14 => ?_)
                · have hf := zx_pos c_14 hf
                  refine lv_iconst (v := (0 : Int32)) hx hb dX6_firstFaultOfText_57 (by decide) ?_
                  refine lv_istore (lv' := [(6, .int (0 : Int32)), (0, .ref (ad (zsC k0))), (1, .int v1), (2, .int v2), (4, .int v4), (5, .int v5)]) hx hb dX6_firstFaultOfText_58 hl (by decide) rfl (fun ls hl => ?_)
                  have loop60 : ∀ (n : Nat) (v1 : Int32) (v2 : Int32) (v4 : Int32) (v5 : Int32) (v6 : Int32) (I : zxI) (H : Heap) (locs : List Loc) (ls : Array Slot), fX6_firstFaultOfText_L60 (fun a0 a1 a2 a3 I => (fX6_firstFaultOfText_L35 k0 n35 a0 a1 a2 a3 I)) k0 n v1 v2 v4 v5 v6 I = some (r, J) → zxAt D shX ad cA I s sz H locs → lv_has ls 7 [(0, .ref (ad (zsC k0))), (1, .int v1), (2, .int v2), (4, .int v4), (5, .int v5), (6, .int v6)] → W p l e (headSpec wsX6_firstFaultOfText { frames := 2, cells := 0, slots := 0, locals := 45 }).room s m args below meth c H locs 0 0 (MQ below (va_Qi (fun (r2 : Int32) (I2 : zxI) => r2 = r ∧ I2 = J) (zxPost D shX ad cA sz) (zxA shX ad sz)) args s 0 0 (zxA shX ad sz)) (F0 m 60 ls []) := by
                    intro n
                    induction n with
                    | zero =>
                      intro v1 v2 v4 v5 v6 I H locs ls hf hG hl
                      rw [fX6_firstFaultOfText_L60] at hf
                      cases hf
                    | succ n60 ih60 =>
                      intro v1 v2 v4 v5 v6 I H locs ls hf hG hl
                      rw [fX6_firstFaultOfText_L60] at hf
                      refine lv_iload hx hb dX6_firstFaultOfText_60 (lv_at hl 5 rfl) ?_
                      refine lv_iconst (v := (5 : Int32)) hx hb dX6_firstFaultOfText_62 (by decide) ?_
                      refine lv_icmp_ge (tgt := 98) hx hb dX6_firstFaultOfText_63 (by decide) (fun c_15 => ?_) (fun c_15 => ?_)
                      · have hf := zx_pos c_15 hf
                        refine lv_iinc (v := (v5 + (1 : Int32))) (lv' := [(5, .int (v5 + (1 : Int32))), (0, .ref (ad (zsC k0))), (1, .int v1), (2, .int v2), (4, .int v4), (6, .int v6)]) hx hb dX6_firstFaultOfText_98 hl (k := 4) rfl (congrArg (HAdd.hAdd v5) (by decide)) (by decide) rfl (fun ls hl => ?_)
                        refine lv_goto (tgt := 35) hx hb dX6_firstFaultOfText_101 (by decide) ?_
                        exact ih35 v1 v2 v4 (v5 + (1 : Int32)) I _ _ ls hf hG (lv_sub hl [1, 2, 3, 4, 0] rfl)
                      · have hf := zx_neg c_15 hf
                        refine lv_iload hx hb dX6_firstFaultOfText_66 (lv_at hl 3 rfl) ?_
                        refine lv_iload_n hx hb dX6_firstFaultOfText_68 rfl (lv_at hl 2 rfl) ?_
                        refine lv_icmp_eq (tgt := 86) hx hb dX6_firstFaultOfText_69 (by decide) (fun c_16 => ?_) (fun c_16 => ?_)
                        · have hf := zx_pos c_16 hf
                          refine lv_iload hx hb dX6_firstFaultOfText_86 (lv_at hl 3 rfl) ?_
                          exact zx_iret hx hb hr hlocks rfl hG hf dX6_firstFaultOfText_88
                        · have hf := zx_neg c_16 hf
                          refine lv_iload hx hb dX6_firstFaultOfText_72 (lv_at hl 5 rfl) ?_
                          refine lv_aload_n hx hb dX6_firstFaultOfText_74 rfl (lv_at hl 0 rfl) ?_
                          refine lv_iload_n hx hb dX6_firstFaultOfText_75 rfl (lv_at hl 1 rfl) ?_
                          refine lv_iload hx hb dX6_firstFaultOfText_76 (lv_at hl 3 rfl) ?_
                          refine lv_iadd hx hb dX6_firstFaultOfText_78 ?_
                          obtain ⟨g_17, hf⟩ := zx_in hf
                          refine zx_ald hx hb hG (shX_sC hk0) g_17 dX6_firstFaultOfText_79 ?_
                          obtain ⟨r_18, I_18, h_18, hf⟩ := zx_b hf
                          refine zx_calli (va_runS (As := [.int v6, .int (I (zsC k0) (v1 + v4).toNatClampNeg)]) (rest := []) ⟨hx, hb, hml, hown, hts⟩ (mX6_fitsGallery l D ad cA v6 (I (zsC k0) (v1 + v4).toNatClampNeg) I r_18 I_18 h_18 _) (va_cwS 2 hts gX6_firstFaultOfText_X6_fitsGallery rfl rfl rfl hd_X6_fitsGallery ⟨Nat.le_of_ble_eq_true rfl, Nat.le_of_ble_eq_true rfl⟩) (zx_preS hG) rfl rfl hl.1 rfl (lv_room (Nat.le_of_ble_eq_true rfl)) dX6_firstFaultOfText_80 ⟨Nat.le_refl _, Nat.le_refl _⟩) hG (fun H locs hG => ?_)
                          refine lv_if_ne (tgt := 89) hx hb dX6_firstFaultOfText_83 (by decide) (fun c_19 => ?_) (fun c_19 => ?_)
                          · have hf := zx_neg c_19 hf
                            refine lv_iinc (v := (v4 + (1 : Int32))) (lv' := [(4, .int (v4 + (1 : Int32))), (0, .ref (ad (zsC k0))), (1, .int v1), (2, .int v2), (5, .int v5), (6, .int v6)]) hx hb dX6_firstFaultOfText_89 hl (k := 3) rfl (congrArg (HAdd.hAdd v4) (by decide)) (by decide) rfl (fun ls hl => ?_)
                            refine lv_iinc (v := (v6 + (1 : Int32))) (lv' := [(6, .int (v6 + (1 : Int32))), (4, .int (v4 + (1 : Int32))), (0, .ref (ad (zsC k0))), (1, .int v1), (2, .int v2), (5, .int v5)]) hx hb dX6_firstFaultOfText_92 hl (k := 5) rfl (congrArg (HAdd.hAdd v6) (by decide)) (by decide) rfl (fun ls hl => ?_)
                            refine lv_goto (tgt := 60) hx hb dX6_firstFaultOfText_95 (by decide) ?_
                            exact ih60 v1 v2 (v4 + (1 : Int32)) v5 (v6 + (1 : Int32)) I_18 _ _ ls hf hG (lv_sub hl [2, 3, 4, 1, 5, 0] rfl)
                          · have hf := zx_pos c_19 hf
                            refine lv_iload hx hb dX6_firstFaultOfText_86 (lv_at hl 3 rfl) ?_
                            exact zx_iret hx hb hr hlocks rfl hG hf dX6_firstFaultOfText_88
                  exact loop60 _ v1 v2 v4 v5 (0 : Int32) I _ _ ls hf hG (lv_sub hl [1, 2, 3, 4, 5, 0] rfl)
                · have hf := zx_neg c_14 hf
                  refine lv_bipush (v := (-9 : Int32)) hx hb dX6_firstFaultOfText_54 (by decide) ?_
                  exact zx_iret hx hb hr hlocks rfl hG hf dX6_firstFaultOfText_56
        exact loop35 _ x1 x2 ((1 : Int32) + r_4) (0 : Int32) I_4 _ _ ls hf hG (lv_sub hl [3, 4, 5, 1, 0] rfl)
      · have hf := zx_pos c_5 hf
        refine lv_iconst (v := (1 : Int32)) hx hb dX6_firstFaultOfText_25 (by decide) ?_
        exact zx_iret hx hb hr hlocks rfl hG hf dX6_firstFaultOfText_26
    · have hf := zx_neg c_3 hf
      refine lv_iconst (v := (0 : Int32)) hx hb dX6_firstFaultOfText_12 (by decide) ?_
      exact zx_iret hx hb hr hlocks rfl hG hf dX6_firstFaultOfText_13

set_option maxHeartbeats 4000000 in
set_option maxRecDepth 100000 in
theorem mX6_isDoor (l : Launch) (D : va_G) (ad : Nat → Nat) (cA : Nat → ClassId) (x1 : Int32) (I : zxI) (r : Int32) (J : zxI) (hf : fX6_isDoor x1 I = some (r, J)) (sz : Nat) : Met l yX6_isDoor wsX6_isDoor { frames := 0, cells := 0, slots := 0, locals := 0 } (va_Pc [.ref (ad 0), .int x1] (zxPre D shX ad cA I sz)) (va_Qi (fun (r2 : Int32) (I2 : zxI) => r2 = r ∧ I2 = J) (zxPost D shX ad cA sz) (zxA shX ad sz)) 0 0 (zxA shX ad sz) := by
  refine zx_start (by decide) rfl (Nat.le_of_ble_eq_true rfl) ?_
  intro p e s m args below meth c ls hx hb hr hts hown hlocks hml hG hl
  have hl : lv_has ls 2 [(0, .ref (ad 0)), (1, .int x1)] := hl
  have hiX2 : ∀ w ∈ wsX20, w ∈ wsX6_isDoor := fun w h => List.mem_cons_of_mem _ (List.mem_append_right _ h)
  have hiX6 : ∀ w ∈ wsX60, w ∈ wsX6_isDoor := fun w h => List.mem_cons_of_mem _ (List.mem_append_left _ (List.mem_append_right _ h))
  have L1 := hts (Cond.fieldLink RX6 20 "GalleryBirds" "pit" "LGalleryBirds$Pit;") (List.mem_of_getElem? (i := 1) rfl)
  have L2 := hts (Cond.fieldLink RX6 97 "GalleryBirds$Pit" "galleries" "I") (List.mem_of_getElem? (i := 2) rfl)
  unfold fX6_isDoor at hf
  refine lv_iload_n hx hb dX6_isDoor_0 rfl (lv_at hl 1 rfl) ?_
  refine lv_if_lt (tgt := 21) hx hb dX6_isDoor_1 (by decide) (fun c_1 => ?_) (fun c_1 => ?_)
  · have hf := zx_pos c_1 hf
    refine lv_iconst (v := (0 : Int32)) hx hb dX6_isDoor_21 (by decide) ?_
    exact zx_iret hx hb hr hlocks rfl hG hf dX6_isDoor_22
  · have hf := zx_neg c_1 hf
    refine lv_iload_n hx hb dX6_isDoor_4 rfl (lv_at hl 1 rfl) ?_
    refine lv_aload_n hx hb dX6_isDoor_5 rfl (lv_at hl 0 rfl) ?_
    refine zx_getR (d := 10) hx hb hts hiX6 hown hG shX_0 vc_6 1 (by decide) rfl L1 dX6_isDoor_6 ?_
    refine zx_getI hx hb hts hiX2 hown hG shX_10 vc_2 0 (by decide) rfl L2 dX6_isDoor_9 ?_
    refine lv_iconst (v := (1 : Int32)) hx hb dX6_isDoor_12 (by decide) ?_
    refine lv_isub hx hb dX6_isDoor_13 ?_
    refine lv_icmp_ge (tgt := 21) hx hb dX6_isDoor_14 (by decide) (fun c_2 => ?_) (fun c_2 => ?_)
    · have hf := zx_pos c_2 hf
      refine lv_iconst (v := (0 : Int32)) hx hb dX6_isDoor_21 (by decide) ?_
      exact zx_iret hx hb hr hlocks rfl hG hf dX6_isDoor_22
    · have hf := zx_neg c_2 hf
      refine lv_iconst (v := (1 : Int32)) hx hb dX6_isDoor_17 (by decide) ?_
      refine lv_goto (tgt := 22) hx hb dX6_isDoor_18 (by decide) ?_
      exact zx_iret hx hb hr hlocks rfl hG hf dX6_isDoor_22
