/-! walks of methods (laid by wip/whole/gen.py) -/
set_option maxHeartbeats 4000000 in
set_option maxRecDepth 100000 in
theorem mX6_seatFrom (l : Launch) (D : va_G) (ad : Nat → Nat) (cA : Nat → ClassId) (j1 : Nat) (hj1 : j1 < 8) : ∀ (d : Nat) (x3 : Int32) (x4 : Int32) (x5 : Int32) (I : zxI) (J : zxI), fX6_seatFrom j1 d x3 x4 x5 I = some J → ∀ (sz : Nat), Met l yX6_seatFrom wsX6_seatFrom { frames := 2 + d, cells := 0, slots := 0, locals := 81 + d * 60 } (va_Pc [.ref (ad 10), .ref (ad (zaO j1)), .ref (ad 39), .int x3, .int x4, .int x5] (zxPre D shX ad cA I sz)) (va_Qv (fun (I2 : zxI) => I2 = J) (zxPost D shX ad cA sz) (zxA shX ad sz)) 0 0 (zxA shX ad sz) := by
  intro d
  induction d with
  | zero =>
    intro x3 x4 x5 I J hf
    rw [fX6_seatFrom] at hf
    cases hf
  | succ d ihd =>
  intro x3 x4 x5 I J hf sz
  refine zx_start (by decide) rfl (Nat.le_of_ble_eq_true rfl) ?_
  intro p e s m args below meth c ls hx hb hr hts hown hlocks hml hG hl
  have hl : lv_has ls 8 [(0, .ref (ad 10)), (1, .ref (ad (zaO j1))), (2, .ref (ad 39)), (3, .int x3), (4, .int x4), (5, .int x5)] := hl
  have hiX0 : ∀ w ∈ wsX00, w ∈ wsX6_seatFrom := fun w h => List.mem_cons_of_mem _ (List.mem_append_right _ h)
  have hiX2 : ∀ w ∈ wsX20, w ∈ wsX6_seatFrom := fun w h => List.mem_cons_of_mem _ (List.mem_append_left _ (List.mem_append_left _ (List.mem_append_right _ h)))
  have hiX4 : ∀ w ∈ wsX40, w ∈ wsX6_seatFrom := fun w h => List.mem_cons_of_mem _ (List.mem_append_left _ (List.mem_append_right _ h))
  have L1 := hts (Cond.fieldLink RX6 97 "GalleryBirds$Pit" "galleries" "I") (List.mem_of_getElem? (i := 1) rfl)
  have L2 := hts (Cond.fieldLink RX6 186 "GalleryBirds$Seating" "most" "I") (List.mem_of_getElem? (i := 2) rfl)
  have L3 := hts (Cond.fieldLink RX6 285 "GalleryBirds$Seating" "row" "[I") (List.mem_of_getElem? (i := 3) rfl)
  have L4 := hts (Cond.fieldLink RX6 106 "GalleryBirds$Air" "fouls" "[I") (List.mem_of_getElem? (i := 4) rfl)
  rw [fX6_seatFrom] at hf
  refine lv_iload hx hb dX6_seatFrom_0 (lv_at hl 5 rfl) ?_
  refine lv_aload_n hx hb dX6_seatFrom_2 rfl (lv_at hl 0 rfl) ?_
  refine zx_getI hx hb hts hiX2 hown hG shX_10 vc_2 0 (by decide) rfl L1 dX6_seatFrom_3 ?_
  refine lv_iadd hx hb dX6_seatFrom_6 ?_
  refine lv_iload_n hx hb dX6_seatFrom_7 rfl (lv_at hl 3 rfl) ?_
  refine lv_isub hx hb dX6_seatFrom_8 ?_
  refine lv_aload_n hx hb dX6_seatFrom_9 rfl (lv_at hl 2 rfl) ?_
  refine zx_getI hx hb hts hiX4 hown hG shX_39 vc_4 2 (by decide) rfl L2 dX6_seatFrom_10 ?_
  refine lv_icmp_gt (tgt := 17) hx hb dX6_seatFrom_13 (by decide) (fun c_1 => ?_) (fun c_1 => ?_)
  · have hf := zx_pos c_1 hf
    refine lv_iload_n hx hb dX6_seatFrom_17 rfl (lv_at hl 3 rfl) ?_
    refine lv_aload_n hx hb dX6_seatFrom_18 rfl (lv_at hl 0 rfl) ?_
    refine zx_getI hx hb hts hiX2 hown hG shX_10 vc_2 0 (by decide) rfl L1 dX6_seatFrom_19 ?_
    refine lv_icmp_ge (tgt := 31) hx hb dX6_seatFrom_22 (by decide) (fun c_2 => ?_) (fun c_2 => ?_)
    · have hf := zx_pos c_2 hf
      refine lv_aload_n hx hb dX6_seatFrom_31 rfl (lv_at hl 2 rfl) ?_
      refine lv_iload hx hb dX6_seatFrom_32 (lv_at hl 5 rfl) ?_
      obtain ⟨I_3, h_3, hf⟩ := zx_v hf
      refine zx_callv (va_runV (As := [.int x5]) (rest := []) ⟨hx, hb, hml, hown, hts⟩ (mX4_keep l D ad cA x5 I I_3 h_3 _) (cwV 1 hts gX6_seatFrom_X4_keep rfl rfl rfl hd_X4_keep ⟨by show 1 + 1 ≤ 2 + (d + 1); omega, by show 8 + (2 + 11) + (60) ≤ 81 + (d + 1) * 60; omega⟩) (zx_preV hG shX_39 vc_4) rfl rfl hl.1 rfl (lv_room (Nat.le_of_ble_eq_true rfl)) dX6_seatFrom_34 ⟨Nat.le_refl _, Nat.le_refl _⟩) hG (fun H locs hG => ?_)
      exact zx_vret hx hb hr hlocks hG hf dX6_seatFrom_37
    · have hf := zx_neg c_2 hf
      refine lv_iload_n hx hb dX6_seatFrom_25 rfl (lv_at hl 3 rfl) ?_
      refine lv_bipush (v := (6 : Int32)) hx hb dX6_seatFrom_26 (by decide) ?_
      refine lv_icmp_lt (tgt := 38) hx hb dX6_seatFrom_28 (by decide) (fun c_4 => ?_) (fun c_4 => ?_)
      · have hf := zx_pos c_4 hf
        refine lv_iconst (v := (0 : Int32)) hx hb dX6_seatFrom_38 (by decide) ?_
        refine lv_istore (lv' := [(6, .int (0 : Int32)), (0, .ref (ad 10)), (1, .ref (ad (zaO j1))), (2, .ref (ad 39)), (3, .int x3), (4, .int x4), (5, .int x5)]) hx hb dX6_seatFrom_39 hl (by decide) rfl (fun ls hl => ?_)
        have loop41 : ∀ (n : Nat) (v3 : Int32) (v4 : Int32) (v5 : Int32) (v6 : Int32) (I : zxI) (H : Heap) (locs : List Loc) (ls : Array Slot), fX6_seatFrom_L41 (fun x3 x4 x5 I => fX6_seatFrom j1 d x3 x4 x5 I) j1 n v3 v4 v5 v6 I = some J → zxAt D shX ad cA I s sz H locs → lv_has ls 8 [(0, .ref (ad 10)), (1, .ref (ad (zaO j1))), (2, .ref (ad 39)), (3, .int v3), (4, .int v4), (5, .int v5), (6, .int v6)] → W p l e (headSpec wsX6_seatFrom { frames := 2 + (d + 1), cells := 0, slots := 0, locals := 81 + (d + 1) * 60 }).room s m args below meth c H locs 0 0 (MQ below (va_Qv (fun (I2 : zxI) => I2 = J) (zxPost D shX ad cA sz) (zxA shX ad sz)) args s 0 0 (zxA shX ad sz)) (F0 m 41 ls []) := by
          intro n
          induction n with
          | zero =>
            intro v3 v4 v5 v6 I H locs ls hf hG hl
            rw [fX6_seatFrom_L41] at hf
            cases hf
          | succ n41 ih41 =>
            intro v3 v4 v5 v6 I H locs ls hf hG hl
            rw [fX6_seatFrom_L41] at hf
            refine lv_iload hx hb dX6_seatFrom_41 (lv_at hl 6 rfl) ?_
            refine lv_aload_n hx hb dX6_seatFrom_43 rfl (lv_at hl 0 rfl) ?_
            refine zx_getI hx hb hts hiX2 hown hG shX_10 vc_2 0 (by decide) rfl L1 dX6_seatFrom_44 ?_
            refine lv_icmp_ge (tgt := 117) hx hb dX6_seatFrom_47 (by decide) (fun c_5 => ?_) (fun c_5 => ?_)
            · have hf := zx_pos c_5 hf
              exact zx_vret hx hb hr hlocks hG hf dX6_seatFrom_117
            · have hf := zx_neg c_5 hf
              refine lv_iload hx hb dX6_seatFrom_50 (lv_at hl 4 rfl) ?_
              refine lv_iload hx hb dX6_seatFrom_52 (lv_at hl 6 rfl) ?_
              refine lv_ishr hx hb dX6_seatFrom_54 ?_
              refine lv_iconst (v := (1 : Int32)) hx hb dX6_seatFrom_55 (by decide) ?_
              refine lv_iand hx hb dX6_seatFrom_56 ?_
              refine lv_if_ne (tgt := 111) hx hb dX6_seatFrom_57 (by decide) (fun c_6 => ?_) (fun c_6 => ?_)
              · have hf := zx_neg c_6 hf
                refine lv_iinc (v := (v6 + (1 : Int32))) (lv' := [(6, .int (v6 + (1 : Int32))), (0, .ref (ad 10)), (1, .ref (ad (zaO j1))), (2, .ref (ad 39)), (3, .int v3), (4, .int v4), (5, .int v5)]) hx hb dX6_seatFrom_111 hl (k := 6) rfl (congrArg (HAdd.hAdd v6) (by decide)) (by decide) rfl (fun ls hl => ?_)
                refine lv_goto (tgt := 41) hx hb dX6_seatFrom_114 (by decide) ?_
                exact ih41 v3 v4 v5 (v6 + (1 : Int32)) I _ _ ls hf hG (lv_sub hl [1, 2, 3, 4, 5, 6, 0] rfl)
              · have hf := zx_pos c_6 hf
                refine lv_aload_n hx hb dX6_seatFrom_60 rfl (lv_at hl 2 rfl) ?_
                refine zx_getR (d := 40) hx hb hts hiX4 hown hG shX_39 vc_4 0 (by decide) rfl L3 dX6_seatFrom_61 ?_
                refine lv_iload_n hx hb dX6_seatFrom_64 rfl (lv_at hl 3 rfl) ?_
                refine lv_iload hx hb dX6_seatFrom_65 (lv_at hl 6 rfl) ?_
                obtain ⟨g_7, hf⟩ := zx_in hf
                refine zx_ast hx hb hG shX_40 g_7 dX6_seatFrom_67 (fun H locs hG => ?_)
                refine lv_aload_n hx hb dX6_seatFrom_68 rfl (lv_at hl 1 rfl) ?_
                refine zx_getR (d := (zaF j1)) hx hb hts hiX0 hown hG (shX_aO hj1) vc_0 0 (by decide) rfl L4 dX6_seatFrom_69 ?_
                refine lv_iload_n hx hb dX6_seatFrom_72 rfl (lv_at hl 3 rfl) ?_
                refine zx_ald hx hb hG (shX_aF hj1) g_7 dX6_seatFrom_73 ?_
                refine lv_aload_n hx hb dX6_seatFrom_74 rfl (lv_at hl 0 rfl) ?_
                refine lv_iload hx hb dX6_seatFrom_75 (lv_at hl 6 rfl) ?_
                obtain ⟨r_9, I_9, h_9, hf⟩ := zx_b hf
                refine zx_calli (va_runV (As := [.int v6]) (rest := [.int ((zxU I 40 v3.toNatClampNeg v6) (zaF j1) v3.toNatClampNeg)]) ⟨hx, hb, hml, hown, hts⟩ (mX2_bears l D ad cA v6 (zxU I 40 v3.toNatClampNeg v6) r_9 I_9 h_9 _) (cwV 1 hts gX6_seatFrom_X2_bears rfl rfl rfl hd_X2_bears ⟨by show 1 + 1 ≤ 2 + (d + 1); omega, by show 8 + (2 + 11) + (21) ≤ 81 + (d + 1) * 60; omega⟩) (zx_preV hG shX_10 vc_2) rfl rfl hl.1 rfl (lv_room (Nat.le_of_ble_eq_true rfl)) dX6_seatFrom_77 ⟨Nat.le_refl _, Nat.le_refl _⟩) hG (fun H locs hG => ?_)
                refine lv_icmp_gt (tgt := 87) hx hb dX6_seatFrom_80 (by decide) (fun c_10 => ?_) (fun c_10 => ?_)
                · have hf := zx_pos c_10 hf
                  refine lv_iconst (v := (0 : Int32)) hx hb dX6_seatFrom_87 (by decide) ?_
                  refine lv_istore (lv' := [(7, .int (0 : Int32)), (0, .ref (ad 10)), (1, .ref (ad (zaO j1))), (2, .ref (ad 39)), (3, .int v3), (4, .int v4), (5, .int v5), (6, .int v6)]) hx hb dX6_seatFrom_88 hl (by decide) rfl (fun ls hl => ?_)
                  refine lv_aload_n hx hb dX6_seatFrom_90 rfl (lv_at hl 1 rfl) ?_
                  refine lv_aload_n hx hb dX6_seatFrom_91 rfl (lv_at hl 2 rfl) ?_
                  refine lv_aload_n hx hb dX6_seatFrom_92 rfl (lv_at hl 3 rfl) ?_
                  refine lv_iload_n hx hb dX6_seatFrom_93 rfl (lv_at hl 4 rfl) ?_
                  refine lv_iconst (v := (1 : Int32)) hx hb dX6_seatFrom_94 (by decide) ?_
                  refine lv_iadd hx hb dX6_seatFrom_95 ?_
                  refine lv_iload hx hb dX6_seatFrom_96 (lv_at hl 5 rfl) ?_
                  refine lv_iconst (v := (1 : Int32)) hx hb dX6_seatFrom_98 (by decide) ?_
                  refine lv_iload hx hb dX6_seatFrom_99 (lv_at hl 7 rfl) ?_
                  refine lv_ishl hx hb dX6_seatFrom_101 ?_
                  refine lv_ior hx hb dX6_seatFrom_102 ?_
                  refine lv_iload hx hb dX6_seatFrom_103 (lv_at hl 6 rfl) ?_
                  refine lv_iload hx hb dX6_seatFrom_105 (lv_at hl 0 rfl) ?_
                  refine lv_iadd hx hb dX6_seatFrom_107 ?_
                  obtain ⟨I_11, h_11, hf⟩ := zx_v hf
                  refine zx_callv (va_runS (As := [.ref (ad 10), .ref (ad (zaO j1)), .ref (ad 39), .int (v3 + (1 : Int32)), .int (v4 ||| ((1 : Int32) <<< (v6 &&& 31))), .int (v5 + (0 : Int32))]) (rest := []) ⟨hx, hb, hml, hown, hts⟩ (ihd (v3 + (1 : Int32)) (v4 ||| ((1 : Int32) <<< (v6 &&& 31))) (v5 + (0 : Int32)) I_9 I_11 h_11 _) (va_cwS 6 hts gX6_seatFrom_X6_seatFrom rfl rfl rfl hd_X6_seatFrom ⟨by show 2 + d + 1 ≤ 2 + (d + 1); omega, by show 8 + (8 + 11) + (81 + d * 60) ≤ 81 + (d + 1) * 60; omega⟩) (zx_preS hG) rfl rfl hl.1 rfl (lv_room (Nat.le_of_ble_eq_true rfl)) dX6_seatFrom_108 ⟨Nat.le_refl _, Nat.le_refl _⟩) hG (fun H locs hG => ?_)
                  refine lv_iinc (v := (v6 + (1 : Int32))) (lv' := [(6, .int (v6 + (1 : Int32))), (7, .int (0 : Int32)), (0, .ref (ad 10)), (1, .ref (ad (zaO j1))), (2, .ref (ad 39)), (3, .int v3), (4, .int v4), (5, .int v5)]) hx hb dX6_seatFrom_111 hl (k := 7) rfl (congrArg (HAdd.hAdd v6) (by decide)) (by decide) rfl (fun ls hl => ?_)
                  refine lv_goto (tgt := 41) hx hb dX6_seatFrom_114 (by decide) ?_
                  exact ih41 v3 v4 v5 (v6 + (1 : Int32)) I_11 _ _ ls hf hG (lv_sub hl [2, 3, 4, 5, 6, 7, 0] rfl)
                · have hf := zx_neg c_10 hf
                  refine lv_iconst (v := (1 : Int32)) hx hb dX6_seatFrom_83 (by decide) ?_
                  refine lv_goto (tgt := 88) hx hb dX6_seatFrom_84 (by decide) ?_
                  refine lv_istore (lv' := [(7, .int (1 : Int32)), (0, .ref (ad 10)), (1, .ref (ad (zaO j1))), (2, .ref (ad 39)), (3, .int v3), (4, .int v4), (5, .int v5), (6, .int v6)]) hx hb dX6_seatFrom_88 hl (by decide) rfl (fun ls hl => ?_)
                  refine lv_aload_n hx hb dX6_seatFrom_90 rfl (lv_at hl 1 rfl) ?_
                  refine lv_aload_n hx hb dX6_seatFrom_91 rfl (lv_at hl 2 rfl) ?_
                  refine lv_aload_n hx hb dX6_seatFrom_92 rfl (lv_at hl 3 rfl) ?_
                  refine lv_iload_n hx hb dX6_seatFrom_93 rfl (lv_at hl 4 rfl) ?_
                  refine lv_iconst (v := (1 : Int32)) hx hb dX6_seatFrom_94 (by decide) ?_
                  refine lv_iadd hx hb dX6_seatFrom_95 ?_
                  refine lv_iload hx hb dX6_seatFrom_96 (lv_at hl 5 rfl) ?_
                  refine lv_iconst (v := (1 : Int32)) hx hb dX6_seatFrom_98 (by decide) ?_
                  refine lv_iload hx hb dX6_seatFrom_99 (lv_at hl 7 rfl) ?_
                  refine lv_ishl hx hb dX6_seatFrom_101 ?_
                  refine lv_ior hx hb dX6_seatFrom_102 ?_
                  refine lv_iload hx hb dX6_seatFrom_103 (lv_at hl 6 rfl) ?_
                  refine lv_iload hx hb dX6_seatFrom_105 (lv_at hl 0 rfl) ?_
                  refine lv_iadd hx hb dX6_seatFrom_107 ?_
                  obtain ⟨I_12, h_12, hf⟩ := zx_v hf
                  refine zx_callv (va_runS (As := [.ref (ad 10), .ref (ad (zaO j1)), .ref (ad 39), .int (v3 + (1 : Int32)), .int (v4 ||| ((1 : Int32) <<< (v6 &&& 31))), .int (v5 + (1 : Int32))]) (rest := []) ⟨hx, hb, hml, hown, hts⟩ (ihd (v3 + (1 : Int32)) (v4 ||| ((1 : Int32) <<< (v6 &&& 31))) (v5 + (1 : Int32)) I_9 I_12 h_12 _) (va_cwS 6 hts gX6_seatFrom_X6_seatFrom rfl rfl rfl hd_X6_seatFrom ⟨by show 2 + d + 1 ≤ 2 + (d + 1); omega, by show 8 + (8 + 11) + (81 + d * 60) ≤ 81 + (d + 1) * 60; omega⟩) (zx_preS hG) rfl rfl hl.1 rfl (lv_room (Nat.le_of_ble_eq_true rfl)) dX6_seatFrom_108 ⟨Nat.le_refl _, Nat.le_refl _⟩) hG (fun H locs hG => ?_)
                  refine lv_iinc (v := (v6 + (1 : Int32))) (lv' := [(6, .int (v6 + (1 : Int32))), (7, .int (1 : Int32)), (0, .ref (ad 10)), (1, .ref (ad (zaO j1))), (2, .ref (ad 39)), (3, .int v3), (4, .int v4), (5, .int v5)]) hx hb dX6_seatFrom_111 hl (k := 7) rfl (congrArg (HAdd.hAdd v6) (by decide)) (by decide) rfl (fun ls hl => ?_)
                  refine lv_goto (tgt := 41) hx hb dX6_seatFrom_114 (by decide) ?_
                  exact ih41 v3 v4 v5 (v6 + (1 : Int32)) I_12 _ _ ls hf hG (lv_sub hl [2, 3, 4, 5, 6, 7, 0] rfl)
        exact loop41 _ x3 x4 x5 (0 : Int32) I _ _ ls hf hG (lv_sub hl [1, 2, 3, 4, 5, 6, 0] rfl)
      · have hf := zx_neg c_4 hf
        refine lv_aload_n hx hb dX6_seatFrom_31 rfl (lv_at hl 2 rfl) ?_
        refine lv_iload hx hb dX6_seatFrom_32 (lv_at hl 5 rfl) ?_
        obtain ⟨I_13, h_13, hf⟩ := zx_v hf
        refine zx_callv (va_runV (As := [.int x5]) (rest := []) ⟨hx, hb, hml, hown, hts⟩ (mX4_keep l D ad cA x5 I I_13 h_13 _) (cwV 1 hts gX6_seatFrom_X4_keep rfl rfl rfl hd_X4_keep ⟨by show 1 + 1 ≤ 2 + (d + 1); omega, by show 8 + (2 + 11) + (60) ≤ 81 + (d + 1) * 60; omega⟩) (zx_preV hG shX_39 vc_4) rfl rfl hl.1 rfl (lv_room (Nat.le_of_ble_eq_true rfl)) dX6_seatFrom_34 ⟨Nat.le_refl _, Nat.le_refl _⟩) hG (fun H locs hG => ?_)
        exact zx_vret hx hb hr hlocks hG hf dX6_seatFrom_37
  · have hf := zx_neg c_1 hf
    exact zx_vret hx hb hr hlocks hG hf dX6_seatFrom_16

set_option maxHeartbeats 4000000 in
set_option maxRecDepth 100000 in
theorem mX6_perches (l : Launch) (D : va_G) (ad : Nat → Nat) (cA : Nat → ClassId) (x1 : Int32) (I : zxI) (r : Int32) (J : zxI) (hf : fX6_perches x1 I = some (r, J)) (sz : Nat) : Met l yX6_perches wsX6_perches { frames := 23, cells := 0, slots := 0, locals := 1308 } (va_Pc [.ref (ad 0), .int x1] (zxPre D shX ad cA I sz)) (va_Qi (fun (r2 : Int32) (I2 : zxI) => r2 = r ∧ I2 = J) (zxPost D shX ad cA sz) (zxA shX ad sz)) 0 0 (zxA shX ad sz) := by
  refine zx_start (by decide) rfl (Nat.le_of_ble_eq_true rfl) ?_
  intro p e s m args below meth c ls hx hb hr hts hown hlocks hml hG hl
  have hl : lv_has ls 2 [(0, .ref (ad 0)), (1, .int x1)] := hl
  have hiX2 : ∀ w ∈ wsX20, w ∈ wsX6_perches := fun w h => List.mem_cons_of_mem _ (List.mem_append_left _ (List.mem_append_left _ (List.mem_append_right _ h)))
  have hiX4 : ∀ w ∈ wsX40, w ∈ wsX6_perches := fun w h => List.mem_cons_of_mem _ (List.mem_append_left _ (List.mem_append_right _ h))
  have hiX6 : ∀ w ∈ wsX60, w ∈ wsX6_perches := fun w h => List.mem_cons_of_mem _ (List.mem_append_left _ (List.mem_append_left _ (List.mem_append_left _ (List.mem_append_right _ h))))
  have L1 := hts (Cond.fieldLink RX6 20 "GalleryBirds" "pit" "LGalleryBirds$Pit;") (List.mem_of_getElem? (i := 1) rfl)
  have L2 := hts (Cond.fieldLink RX6 97 "GalleryBirds$Pit" "galleries" "I") (List.mem_of_getElem? (i := 2) rfl)
  have L3 := hts (Cond.fieldLink RX6 56 "GalleryBirds" "seating" "LGalleryBirds$Seating;") (List.mem_of_getElem? (i := 3) rfl)
  have L4 := hts (Cond.fieldLink RX6 186 "GalleryBirds$Seating" "most" "I") (List.mem_of_getElem? (i := 4) rfl)
  have L5 := hts (Cond.fieldLink RX6 27 "GalleryBirds" "air" "LGalleryBirds$Air;") (List.mem_of_getElem? (i := 5) rfl)
  have L6 := hts (Cond.fieldLink RX6 193 "GalleryBirds$Seating" "best" "[I") (List.mem_of_getElem? (i := 6) rfl)
  unfold fX6_perches at hf
  refine lv_iload_n hx hb dX6_perches_0 rfl (lv_at hl 1 rfl) ?_
  refine lv_iconst (v := (-1 : Int32)) hx hb dX6_perches_1 (by decide) ?_
  refine lv_icmp_lt (tgt := 11) hx hb dX6_perches_2 (by decide) (fun c_1 => ?_) (fun c_1 => ?_)
  · have hf := zx_pos c_1 hf
    refine lv_bipush (v := (-2 : Int32)) hx hb dX6_perches_11 (by decide) ?_
    exact zx_iret hx hb hr hlocks rfl hG hf dX6_perches_13
  · have hf := zx_neg c_1 hf
    refine lv_iload_n hx hb dX6_perches_5 rfl (lv_at hl 1 rfl) ?_
    refine lv_bipush (v := (6 : Int32)) hx hb dX6_perches_6 (by decide) ?_
    refine lv_icmp_lt (tgt := 14) hx hb dX6_perches_8 (by decide) (fun c_2 => ?_) (fun c_2 => ?_)
    · have hf := zx_pos c_2 hf
      refine lv_aload_n hx hb dX6_perches_14 rfl (lv_at hl 0 rfl) ?_
      obtain ⟨r_3, I_3, h_3, hf⟩ := zx_b hf
      refine zx_calli (va_runV (As := []) (rest := []) ⟨hx, hb, hml, hown, hts⟩ (mX6_hasMine l D ad cA I r_3 I_3 h_3 _) (cwV 0 hts gX6_perches_X6_hasMine rfl rfl rfl hd_X6_hasMine ⟨Nat.le_of_ble_eq_true rfl, Nat.le_of_ble_eq_true rfl⟩) (zx_preV hG shX_0 vc_6) rfl rfl hl.1 rfl (lv_room (Nat.le_of_ble_eq_true rfl)) dX6_perches_15 ⟨Nat.le_refl _, Nat.le_refl _⟩) hG (fun H locs hG => ?_)
      refine lv_if_ne (tgt := 24) hx hb dX6_perches_18 (by decide) (fun c_4 => ?_) (fun c_4 => ?_)
      · have hf := zx_neg c_4 hf
        refine lv_iload_n hx hb dX6_perches_24 rfl (lv_at hl 1 rfl) ?_
        refine lv_aload_n hx hb dX6_perches_25 rfl (lv_at hl 0 rfl) ?_
        refine zx_getR (d := 10) hx hb hts hiX6 hown hG shX_0 vc_6 1 (by decide) rfl L1 dX6_perches_26 ?_
        refine zx_getI hx hb hts hiX2 hown hG shX_10 vc_2 0 (by decide) rfl L2 dX6_perches_29 ?_
        refine lv_icmp_lt (tgt := 38) hx hb dX6_perches_32 (by decide) (fun c_5 => ?_) (fun c_5 => ?_)
        · have hf := zx_pos c_5 hf
          refine lv_aload_n hx hb dX6_perches_38 rfl (lv_at hl 0 rfl) ?_
          refine zx_getR (d := 39) hx hb hts hiX6 hown hG shX_0 vc_6 7 (by decide) rfl L3 dX6_perches_39 ?_
          refine lv_iconst (v := (-1 : Int32)) hx hb dX6_perches_42 (by decide) ?_
          refine zx_putI hx hb hts hiX4 tyX4 tyX4_ok nmX4 hown hG shX_39 vc_4 2 (by decide) rfl L4 rfl (ty := .int) (tyX4_ok 2 (by decide)) rfl rfl dX6_perches_43 (fun H locs hG => ?_)
          refine lv_aload_n hx hb dX6_perches_46 rfl (lv_at hl 0 rfl) ?_
          refine zx_getR (d := 10) hx hb hts hiX6 hown hG shX_0 vc_6 1 (by decide) rfl L1 dX6_perches_47 ?_
          refine lv_aload_n hx hb dX6_perches_50 rfl (lv_at hl 0 rfl) ?_
          refine zx_getR (d := (zaO 0)) hx hb hts hiX6 hown hG shX_0 vc_6 2 (by decide) rfl L5 dX6_perches_51 ?_
          refine lv_aload_n hx hb dX6_perches_54 rfl (lv_at hl 0 rfl) ?_
          refine zx_getR (d := 39) hx hb hts hiX6 hown hG shX_0 vc_6 7 (by decide) rfl L3 dX6_perches_55 ?_
          refine lv_iconst (v := (0 : Int32)) hx hb dX6_perches_58 (by decide) ?_
          refine lv_iconst (v := (0 : Int32)) hx hb dX6_perches_59 (by decide) ?_
          refine lv_iconst (v := (0 : Int32)) hx hb dX6_perches_60 (by decide) ?_
          obtain ⟨I_6, h_6, hf⟩ := zx_v hf
          refine zx_callv (va_runS (As := [.ref (ad 10), .ref (ad (zaO 0)), .ref (ad 39), .int (0 : Int32), .int (0 : Int32), .int (0 : Int32)]) (rest := []) ⟨hx, hb, hml, hown, hts⟩ (mX6_seatFrom l D ad cA 0 (by decide : 0 < 8) 20 (0 : Int32) (0 : Int32) (0 : Int32) (zxU I_3 39 2 (-1 : Int32)) I_6 h_6 _) (va_cwS 6 hts gX6_perches_X6_seatFrom rfl rfl rfl hd_X6_seatFrom ⟨Nat.le_of_ble_eq_true rfl, Nat.le_of_ble_eq_true rfl⟩) (zx_preS hG) rfl rfl hl.1 rfl (lv_room (Nat.le_of_ble_eq_true rfl)) dX6_perches_61 ⟨Nat.le_refl _, Nat.le_refl _⟩) hG (fun H locs hG => ?_)
          refine lv_iload_n hx hb dX6_perches_64 rfl (lv_at hl 1 rfl) ?_
          refine lv_iconst (v := (-1 : Int32)) hx hb dX6_perches_65 (by decide) ?_
          refine lv_icmp_ne (tgt := 79) hx hb dX6_perches_66 (by decide) (fun c_7 => ?_) (fun c_7 => ?_)
          · have hf := zx_neg c_7 hf
            refine lv_aload_n hx hb dX6_perches_79 rfl (lv_at hl 0 rfl) ?_
            refine zx_getR (d := 39) hx hb hts hiX6 hown hG shX_0 vc_6 7 (by decide) rfl L3 dX6_perches_80 ?_
            refine zx_getR (d := 41) hx hb hts hiX4 hown hG shX_39 vc_4 1 (by decide) rfl L6 dX6_perches_83 ?_
            refine lv_iload_n hx hb dX6_perches_86 rfl (lv_at hl 1 rfl) ?_
            obtain ⟨g_8, hf⟩ := zx_in hf
            refine zx_ald hx hb hG shX_41 g_8 dX6_perches_87 ?_
            exact zx_iret hx hb hr hlocks rfl hG hf dX6_perches_88
          · have hf := zx_pos c_7 hf
            refine lv_aload_n hx hb dX6_perches_69 rfl (lv_at hl 0 rfl) ?_
            refine zx_getR (d := 39) hx hb hts hiX6 hown hG shX_0 vc_6 7 (by decide) rfl L3 dX6_perches_70 ?_
            refine zx_getI hx hb hts hiX4 hown hG shX_39 vc_4 2 (by decide) rfl L4 dX6_perches_73 ?_
            refine lv_goto (tgt := 88) hx hb dX6_perches_76 (by decide) ?_
            exact zx_iret hx hb hr hlocks rfl hG hf dX6_perches_88
        · have hf := zx_neg c_5 hf
          refine lv_bipush (v := (-9 : Int32)) hx hb dX6_perches_35 (by decide) ?_
          exact zx_iret hx hb hr hlocks rfl hG hf dX6_perches_37
      · have hf := zx_pos c_4 hf
        refine lv_bipush (v := (-3 : Int32)) hx hb dX6_perches_21 (by decide) ?_
        exact zx_iret hx hb hr hlocks rfl hG hf dX6_perches_23
    · have hf := zx_neg c_2 hf
      refine lv_bipush (v := (-2 : Int32)) hx hb dX6_perches_11 (by decide) ?_
      exact zx_iret hx hb hr hlocks rfl hG hf dX6_perches_13

set_option maxHeartbeats 4000000 in
set_option maxRecDepth 100000 in
theorem mX6_airBehind (l : Launch) (D : va_G) (ad : Nat → Nat) (cA : Nat → ClassId) (x1 : Int32) (x2 : Int32) (I : zxI) (J : zxI) (hf : fX6_airBehind x1 x2 I = some J) (sz : Nat) : Met l yX6_airBehind wsX6_airBehind { frames := 5, cells := 0, slots := 0, locals := 111 } (va_Pc [.ref (ad 0), .int x1, .int x2] (zxPre D shX ad cA I sz)) (va_Qr (fun (I2 : zxI) => I2 = J) (fun I2 a t => a = ad (zaO 1) ∧ zxPost D shX ad cA sz I2 t) (zxA shX ad sz)) 0 0 (zxA shX ad sz) := by
  refine zx_start (by decide) rfl (Nat.le_of_ble_eq_true rfl) ?_
  intro p e s m args below meth c ls hx hb hr hts hown hlocks hml hG hl
  have hl : lv_has ls 4 [(0, .ref (ad 0)), (1, .int x1), (2, .int x2)] := hl
  have hiX2 : ∀ w ∈ wsX20, w ∈ wsX6_airBehind := fun w h => List.mem_cons_of_mem _ (List.mem_append_left _ (List.mem_append_right _ h))
  have hiX6 : ∀ w ∈ wsX60, w ∈ wsX6_airBehind := fun w h => List.mem_cons_of_mem _ (List.mem_append_left _ (List.mem_append_left _ (List.mem_append_right _ h)))
  have L1 := hts (Cond.fieldLink RX6 45 "GalleryBirds" "trials" "[LGalleryBirds$Air;") (List.mem_of_getElem? (i := 1) rfl)
  have L2 := hts (Cond.fieldLink RX6 27 "GalleryBirds" "air" "LGalleryBirds$Air;") (List.mem_of_getElem? (i := 2) rfl)
  have L3 := hts (Cond.fieldLink RX6 20 "GalleryBirds" "pit" "LGalleryBirds$Pit;") (List.mem_of_getElem? (i := 3) rfl)
  have L4 := hts (Cond.fieldLink RX6 121 "GalleryBirds$Pit" "doors" "I") (List.mem_of_getElem? (i := 4) rfl)
  unfold fX6_airBehind at hf
  refine lv_aload_n hx hb dX6_airBehind_0 rfl (lv_at hl 0 rfl) ?_
  refine zx_getR (d := 30) hx hb hts hiX6 hown hG shX_0 vc_6 5 (by decide) rfl L1 dX6_airBehind_1 ?_
  refine lv_iconst (v := (0 : Int32)) hx hb dX6_airBehind_4 (by decide) ?_
  refine zx_aldR (d := (zaO 1)) (t := 2) hx hb hG shX_30 rfl (by unfold vp_in; decide) (by decide) dX6_airBehind_5 ?_
  refine lv_astore_n (lv' := [(3, .ref (ad (zaO 1))), (0, .ref (ad 0)), (1, .int x1), (2, .int x2)]) hx hb dX6_airBehind_6 rfl hl (by decide) rfl (fun ls hl => ?_)
  refine lv_aload_n hx hb dX6_airBehind_7 rfl (lv_at hl 0 rfl) ?_
  refine lv_aload_n hx hb dX6_airBehind_8 rfl (lv_at hl 1 rfl) ?_
  refine zx_getR (d := (zaO 0)) hx hb hts hiX6 hown hG shX_0 vc_6 2 (by decide) rfl L2 dX6_airBehind_9 ?_
  obtain ⟨I_2, h_2, hf⟩ := zx_v hf
  refine zx_callv (va_runV (As := [.ref (ad (zaO 0))]) (rest := []) ⟨hx, hb, hml, hown, hts⟩ (mX0_becomeLike l D ad cA 1 0 (by decide : 1 < 8) (by decide : 0 < 8) I I_2 h_2 _) (cwV 1 hts gX6_airBehind_X0_becomeLike rfl rfl rfl hd_X0_becomeLike ⟨Nat.le_of_ble_eq_true rfl, Nat.le_of_ble_eq_true rfl⟩) (zx_preV hG (shX_aO (by decide : 1 < 8)) vc_0) rfl rfl hl.1 rfl (lv_room (Nat.le_of_ble_eq_true rfl)) dX6_airBehind_12 ⟨Nat.le_refl _, Nat.le_refl _⟩) hG (fun H locs hG => ?_)
  refine lv_aload_n hx hb dX6_airBehind_15 rfl (lv_at hl 1 rfl) ?_
  refine zx_getR (d := 10) hx hb hts hiX6 hown hG shX_0 vc_6 1 (by decide) rfl L3 dX6_airBehind_16 ?_
  refine lv_aload_n hx hb dX6_airBehind_19 rfl (lv_at hl 0 rfl) ?_
  refine lv_aload_n hx hb dX6_airBehind_20 rfl (lv_at hl 1 rfl) ?_
  refine zx_getR (d := 10) hx hb hts hiX6 hown hG shX_0 vc_6 1 (by decide) rfl L3 dX6_airBehind_21 ?_
  refine zx_getI hx hb hts hiX2 hown hG shX_10 vc_2 5 (by decide) rfl L4 dX6_airBehind_24 ?_
  refine lv_iload_n hx hb dX6_airBehind_27 rfl (lv_at hl 2 rfl) ?_
  refine lv_iload_n hx hb dX6_airBehind_28 rfl (lv_at hl 3 rfl) ?_
  obtain ⟨r_3, I_3, h_3, hf⟩ := zx_b hf
  refine zx_calli (va_runV (As := [.ref (ad (zaO 1)), .int (I_2 10 5), .int x1, .int x2]) (rest := []) ⟨hx, hb, hml, hown, hts⟩ (mX2_breathe l D ad cA 1 (by decide : 1 < 8) (I_2 10 5) x1 x2 I_2 r_3 I_3 h_3 _) (cwV 4 hts gX6_airBehind_X2_breathe rfl rfl rfl hd_X2_breathe ⟨Nat.le_of_ble_eq_true rfl, Nat.le_of_ble_eq_true rfl⟩) (zx_preV hG shX_10 vc_2) rfl rfl hl.1 rfl (lv_room (Nat.le_of_ble_eq_true rfl)) dX6_airBehind_29 ⟨Nat.le_refl _, Nat.le_refl _⟩) hG (fun H locs hG => ?_)
  refine lv_pop hx hb dX6_airBehind_32 rfl ?_
  refine lv_aload_n hx hb dX6_airBehind_33 rfl (lv_at hl 0 rfl) ?_
  exact zx_aret (d := zaO 1) hx hb hr (Or.inl ⟨_, rfl⟩) hlocks hG hf dX6_airBehind_34

set_option maxHeartbeats 4000000 in
set_option maxRecDepth 100000 in
theorem mX6_isAsTold (l : Launch) (D : va_G) (ad : Nat → Nat) (cA : Nat → ClassId) (k1 : Nat) (j3 : Nat) (hk1 : k1 < 4) (hj3 : j3 < 8) (x2 : Int32) (I : zxI) (r : Int32) (J : zxI) (hf : fX6_isAsTold k1 j3 x2 I = some (r, J)) (sz : Nat) : Met l yX6_isAsTold wsX6_isAsTold { frames := 0, cells := 0, slots := 0, locals := 0 } (va_Pc [.ref (ad 0), .ref (ad (zsC k1)), .int x2, .ref (ad (zaO j3))] (zxPre D shX ad cA I sz)) (va_Qi (fun (r2 : Int32) (I2 : zxI) => r2 = r ∧ I2 = J) (zxPost D shX ad cA sz) (zxA shX ad sz)) 0 0 (zxA shX ad sz) := by
  refine zx_start (by decide) rfl (Nat.le_of_ble_eq_true rfl) ?_
  intro p e s m args below meth c ls hx hb hr hts hown hlocks hml hG hl
  have hl : lv_has ls 5 [(0, .ref (ad 0)), (1, .ref (ad (zsC k1))), (2, .int x2), (3, .ref (ad (zaO j3)))] := hl
  have hiX0 : ∀ w ∈ wsX00, w ∈ wsX6_isAsTold := fun w h => List.mem_cons_of_mem _ (List.mem_append_right _ h)
  have hiX2 : ∀ w ∈ wsX20, w ∈ wsX6_isAsTold := fun w h => List.mem_cons_of_mem _ (List.mem_append_left _ (List.mem_append_right _ h))
  have hiX6 : ∀ w ∈ wsX60, w ∈ wsX6_isAsTold := fun w h => List.mem_cons_of_mem _ (List.mem_append_left _ (List.mem_append_left _ (List.mem_append_right _ h)))
  have L1 := hts (Cond.fieldLink RX6 20 "GalleryBirds" "pit" "LGalleryBirds$Pit;") (List.mem_of_getElem? (i := 1) rfl)
  have L2 := hts (Cond.fieldLink RX6 97 "GalleryBirds$Pit" "galleries" "I") (List.mem_of_getElem? (i := 2) rfl)
  have L3 := hts (Cond.fieldLink RX6 106 "GalleryBirds$Air" "fouls" "[I") (List.mem_of_getElem? (i := 3) rfl)
  unfold fX6_isAsTold at hf
  refine lv_iconst (v := (0 : Int32)) hx hb dX6_isAsTold_0 (by decide) ?_
  refine lv_istore (lv' := [(4, .int (0 : Int32)), (0, .ref (ad 0)), (1, .ref (ad (zsC k1))), (2, .int x2), (3, .ref (ad (zaO j3)))]) hx hb dX6_isAsTold_1 hl (by decide) rfl (fun ls hl => ?_)
  have loop3 : ∀ (n : Nat) (v2 : Int32) (v4 : Int32) (I : zxI) (H : Heap) (locs : List Loc) (ls : Array Slot), fX6_isAsTold_L3 k1 j3 n v2 v4 I = some (r, J) → zxAt D shX ad cA I s sz H locs → lv_has ls 5 [(0, .ref (ad 0)), (1, .ref (ad (zsC k1))), (2, .int v2), (3, .ref (ad (zaO j3))), (4, .int v4)] → W p l e (headSpec wsX6_isAsTold { frames := 0, cells := 0, slots := 0, locals := 0 }).room s m args below meth c H locs 0 0 (MQ below (va_Qi (fun (r2 : Int32) (I2 : zxI) => r2 = r ∧ I2 = J) (zxPost D shX ad cA sz) (zxA shX ad sz)) args s 0 0 (zxA shX ad sz)) (F0 m 3 ls []) := by
    intro n
    induction n with
    | zero =>
      intro v2 v4 I H locs ls hf hG hl
      rw [fX6_isAsTold_L3] at hf
      cases hf
    | succ n3 ih3 =>
      intro v2 v4 I H locs ls hf hG hl
      rw [fX6_isAsTold_L3] at hf
      refine lv_iload hx hb dX6_isAsTold_3 (lv_at hl 4 rfl) ?_
      refine lv_aload_n hx hb dX6_isAsTold_5 rfl (lv_at hl 0 rfl) ?_
      refine zx_getR (d := 10) hx hb hts hiX6 hown hG shX_0 vc_6 1 (by decide) rfl L1 dX6_isAsTold_6 ?_
      refine zx_getI hx hb hts hiX2 hown hG shX_10 vc_2 0 (by decide) rfl L2 dX6_isAsTold_9 ?_
      refine lv_icmp_ge (tgt := 39) hx hb dX6_isAsTold_12 (by decide) (fun c_1 => ?_) (fun c_1 => ?_)
      · have hf := zx_pos c_1 hf
        refine lv_iconst (v := (1 : Int32)) hx hb dX6_isAsTold_39 (by decide) ?_
        exact zx_iret hx hb hr hlocks rfl hG hf dX6_isAsTold_40
      · have hf := zx_neg c_1 hf
        refine lv_aload_n hx hb dX6_isAsTold_15 rfl (lv_at hl 1 rfl) ?_
        refine lv_iload_n hx hb dX6_isAsTold_16 rfl (lv_at hl 2 rfl) ?_
        refine lv_iload hx hb dX6_isAsTold_17 (lv_at hl 4 rfl) ?_
        refine lv_iadd hx hb dX6_isAsTold_19 ?_
        obtain ⟨g_2, hf⟩ := zx_in hf
        refine zx_ald hx hb hG (shX_sC hk1) g_2 dX6_isAsTold_20 ?_
        refine lv_aload_n hx hb dX6_isAsTold_21 rfl (lv_at hl 3 rfl) ?_
        refine zx_getR (d := (zaF j3)) hx hb hts hiX0 hown hG (shX_aO hj3) vc_0 0 (by decide) rfl L3 dX6_isAsTold_22 ?_
        refine lv_iload hx hb dX6_isAsTold_25 (lv_at hl 4 rfl) ?_
        obtain ⟨g_3, hf⟩ := zx_in hf
        refine zx_ald hx hb hG (shX_aF hj3) g_3 dX6_isAsTold_27 ?_
        refine lv_icmp_eq (tgt := 33) hx hb dX6_isAsTold_28 (by decide) (fun c_4 => ?_) (fun c_4 => ?_)
        · have hf := zx_pos c_4 hf
          refine lv_iinc (v := (v4 + (1 : Int32))) (lv' := [(4, .int (v4 + (1 : Int32))), (0, .ref (ad 0)), (1, .ref (ad (zsC k1))), (2, .int v2), (3, .ref (ad (zaO j3)))]) hx hb dX6_isAsTold_33 hl (k := 4) rfl (congrArg (HAdd.hAdd v4) (by decide)) (by decide) rfl (fun ls hl => ?_)
          refine lv_goto (tgt := 3) hx hb dX6_isAsTold_36 (by decide) ?_
          exact ih3 v2 (v4 + (1 : Int32)) I _ _ ls hf hG (lv_sub hl [1, 2, 3, 4, 0] rfl)
        · have hf := zx_neg c_4 hf
          refine lv_iconst (v := (0 : Int32)) hx hb dX6_isAsTold_31 (by decide) ?_
          exact zx_iret hx hb hr hlocks rfl hG hf dX6_isAsTold_32
  exact loop3 _ x2 (0 : Int32) I _ _ ls hf hG (lv_sub hl [1, 2, 3, 4, 0] rfl)

set_option maxHeartbeats 4000000 in
set_option maxRecDepth 100000 in
theorem mX6_found (l : Launch) (D : va_G) (ad : Nat → Nat) (cA : Nat → ClassId) (x1 : Int32) (x2 : Int32) (x3 : Int32) (x4 : Int32) (I : zxI) (r : Int32) (J : zxI) (hf : fX6_found x1 x2 x3 x4 I = some (r, J)) (sz : Nat) : Met l yX6_found wsX6_found { frames := 6, cells := 0, slots := 0, locals := 134 } (va_Pc [.ref (ad 0), .int x1, .int x2, .int x3, .int x4] (zxPre D shX ad cA I sz)) (va_Qi (fun (r2 : Int32) (I2 : zxI) => r2 = r ∧ I2 = J) (zxPost D shX ad cA sz) (zxA shX ad sz)) 0 0 (zxA shX ad sz) := by
  refine zx_start (by decide) rfl (Nat.le_of_ble_eq_true rfl) ?_
  intro p e s m args below meth c ls hx hb hr hts hown hlocks hml hG hl
  have hl : lv_has ls 10 [(0, .ref (ad 0)), (1, .int x1), (2, .int x2), (3, .int x3), (4, .int x4)] := hl
  have hiX2 : ∀ w ∈ wsX20, w ∈ wsX6_found := fun w h => List.mem_cons_of_mem _ (List.mem_append_left _ (List.mem_append_left _ (List.mem_append_right _ h)))
  have hiX5 : ∀ w ∈ wsX50, w ∈ wsX6_found := fun w h => List.mem_cons_of_mem _ (List.mem_append_left _ (List.mem_append_right _ h))
  have hiX6 : ∀ w ∈ wsX60, w ∈ wsX6_found := fun w h => List.mem_cons_of_mem _ (List.mem_append_left _ (List.mem_append_left _ (List.mem_append_left _ (List.mem_append_right _ h))))
  have L1 := hts (Cond.fieldLink RX6 67 "GalleryBirds" "lastFault" "I") (List.mem_of_getElem? (i := 1) rfl)
  have L2 := hts (Cond.fieldLink RX6 13 "GalleryBirds" "sheets" "[LGalleryBirds$Sheet;") (List.mem_of_getElem? (i := 2) rfl)
  have L3 := hts (Cond.fieldLink RX6 20 "GalleryBirds" "pit" "LGalleryBirds$Pit;") (List.mem_of_getElem? (i := 3) rfl)
  have L4 := hts (Cond.fieldLink RX6 97 "GalleryBirds$Pit" "galleries" "I") (List.mem_of_getElem? (i := 4) rfl)
  have L5 := hts (Cond.fieldLink RX6 196 "GalleryBirds$Pit" "words" "I") (List.mem_of_getElem? (i := 5) rfl)
  have L6 := hts (Cond.fieldLink RX6 86 "GalleryBirds$Sheet" "cells" "[I") (List.mem_of_getElem? (i := 6) rfl)
  unfold fX6_found at hf
  refine lv_aload_n hx hb dX6_found_0 rfl (lv_at hl 0 rfl) ?_
  refine lv_iconst (v := (0 : Int32)) hx hb dX6_found_1 (by decide) ?_
  refine zx_putI hx hb hts hiX6 tyX6 tyX6_ok nmX6 hown hG shX_0 vc_6 10 (by decide) rfl L1 rfl (ty := .int) (tyX6_ok 10 (by decide)) rfl rfl dX6_found_2 (fun H locs hG => ?_)
  refine lv_iload_n hx hb dX6_found_5 rfl (lv_at hl 1 rfl) ?_
  obtain ⟨r_1, I_1, h_1, hf⟩ := zx_b hf
  refine zx_calli (va_runS (As := [.int x1]) (rest := []) ⟨hx, hb, hml, hown, hts⟩ (mX6_isSheet l D ad cA x1 (zxU I 0 10 (0 : Int32)) r_1 I_1 h_1 _) (va_cwS 1 hts gX6_found_X6_isSheet rfl rfl rfl hd_X6_isSheet ⟨Nat.le_of_ble_eq_true rfl, Nat.le_of_ble_eq_true rfl⟩) (zx_preS hG) rfl rfl hl.1 rfl (lv_room (Nat.le_of_ble_eq_true rfl)) dX6_found_6 ⟨Nat.le_refl _, Nat.le_refl _⟩) hG (fun H locs hG => ?_)
  refine lv_if_ne (tgt := 14) hx hb dX6_found_9 (by decide) (fun c_2 => ?_) (fun c_2 => ?_)
  · have hf := zx_neg c_2 hf
    refine lv_iload_n hx hb dX6_found_14 rfl (lv_at hl 2 rfl) ?_
    obtain ⟨r_3, I_3, h_3, hf⟩ := zx_b hf
    refine zx_calli (va_runS (As := [.int x2]) (rest := []) ⟨hx, hb, hml, hown, hts⟩ (mX6_isLane l D ad cA x2 I_1 r_3 I_3 h_3 _) (va_cwS 1 hts gX6_found_X6_isLane rfl rfl rfl hd_X6_isLane ⟨Nat.le_of_ble_eq_true rfl, Nat.le_of_ble_eq_true rfl⟩) (zx_preS hG) rfl rfl hl.1 rfl (lv_room (Nat.le_of_ble_eq_true rfl)) dX6_found_15 ⟨Nat.le_refl _, Nat.le_refl _⟩) hG (fun H locs hG => ?_)
    refine lv_if_eq (tgt := 34) hx hb dX6_found_18 (by decide) (fun c_4 => ?_) (fun c_4 => ?_)
    · have hf := zx_pos c_4 hf
      refine lv_bipush (v := (-2 : Int32)) hx hb dX6_found_34 (by decide) ?_
      exact zx_iret hx hb hr hlocks rfl hG hf dX6_found_36
    · have hf := zx_neg c_4 hf
      refine lv_iload hx hb dX6_found_21 (lv_at hl 4 rfl) ?_
      refine lv_iconst (v := (-1 : Int32)) hx hb dX6_found_23 (by decide) ?_
      refine lv_icmp_lt (tgt := 34) hx hb dX6_found_24 (by decide) (fun c_5 => ?_) (fun c_5 => ?_)
      · have hf := zx_pos c_5 hf
        refine lv_bipush (v := (-2 : Int32)) hx hb dX6_found_34 (by decide) ?_
        exact zx_iret hx hb hr hlocks rfl hG hf dX6_found_36
      · have hf := zx_neg c_5 hf
        refine lv_iload hx hb dX6_found_27 (lv_at hl 4 rfl) ?_
        refine lv_bipush (v := (24 : Int32)) hx hb dX6_found_29 (by decide) ?_
        refine lv_icmp_lt (tgt := 37) hx hb dX6_found_31 (by decide) (fun c_6 => ?_) (fun c_6 => ?_)
        · have hf := zx_pos c_6 hf
          refine lv_aload_n hx hb dX6_found_37 rfl (lv_at hl 0 rfl) ?_
          obtain ⟨r_7, I_7, h_7, hf⟩ := zx_b hf
          refine zx_calli (va_runV (As := []) (rest := []) ⟨hx, hb, hml, hown, hts⟩ (mX6_hasMine l D ad cA I_3 r_7 I_7 h_7 _) (cwV 0 hts gX6_found_X6_hasMine rfl rfl rfl hd_X6_hasMine ⟨Nat.le_of_ble_eq_true rfl, Nat.le_of_ble_eq_true rfl⟩) (zx_preV hG shX_0 vc_6) rfl rfl hl.1 rfl (lv_room (Nat.le_of_ble_eq_true rfl)) dX6_found_38 ⟨Nat.le_refl _, Nat.le_refl _⟩) hG (fun H locs hG => ?_)
          refine lv_if_ne (tgt := 47) hx hb dX6_found_41 (by decide) (fun c_8 => ?_) (fun c_8 => ?_)
          · have hf := zx_neg c_8 hf
            refine lv_aload_n hx hb dX6_found_47 rfl (lv_at hl 0 rfl) ?_
            refine zx_getR (d := 1) hx hb hts hiX6 hown hG shX_0 vc_6 0 (by decide) rfl L2 dX6_found_48 ?_
            refine lv_iload_n hx hb dX6_found_51 rfl (lv_at hl 1 rfl) ?_
            obtain ⟨g_9, hf⟩ := zx_in hf
            refine zx_aldR (d := (zsO (x1.toNatClampNeg))) (t := 1) hx hb hG shX_1 rfl g_9 (shX_rs (zx_lt g_9)) dX6_found_52 ?_
            refine lv_astore (lv' := [(5, .ref (ad (zsO (x1.toNatClampNeg)))), (0, .ref (ad 0)), (1, .int x1), (2, .int x2), (3, .int x3), (4, .int x4)]) hx hb dX6_found_53 hl (by decide) rfl (fun ls hl => ?_)
            refine lv_aload hx hb dX6_found_55 (lv_at hl 0 rfl) ?_
            refine lv_iload_n hx hb dX6_found_57 rfl (lv_at hl 3 rfl) ?_
            refine lv_iload_n hx hb dX6_found_58 rfl (lv_at hl 4 rfl) ?_
            refine lv_aload_n hx hb dX6_found_59 rfl (lv_at hl 1 rfl) ?_
            refine zx_getR (d := 10) hx hb hts hiX6 hown hG shX_0 vc_6 1 (by decide) rfl L3 dX6_found_60 ?_
            refine zx_getI hx hb hts hiX2 hown hG shX_10 vc_2 0 (by decide) rfl L4 dX6_found_63 ?_
            obtain ⟨r_10, I_10, h_10, hf⟩ := zx_b hf
            refine zx_calli (va_runV (As := [.int x2, .int x3, .int (I_7 10 0)]) (rest := []) ⟨hx, hb, hml, hown, hts⟩ (mX5_faultOfCells l D ad cA (x1.toNatClampNeg) (zx_lt g_9) x2 x3 (I_7 10 0) I_7 r_10 I_10 h_10 _) (cwV 3 hts gX6_found_X5_faultOfCells rfl rfl rfl hd_X5_faultOfCells ⟨Nat.le_of_ble_eq_true rfl, Nat.le_of_ble_eq_true rfl⟩) (zx_preV hG (shX_sO (zx_lt g_9)) vc_5) rfl rfl hl.1 rfl (lv_room (Nat.le_of_ble_eq_true rfl)) dX6_found_66 ⟨Nat.le_refl _, Nat.le_refl _⟩) hG (fun H locs hG => ?_)
            refine lv_istore (lv' := [(6, .int r_10), (5, .ref (ad (zsO (x1.toNatClampNeg)))), (0, .ref (ad 0)), (1, .int x1), (2, .int x2), (3, .int x3), (4, .int x4)]) hx hb dX6_found_69 hl (by decide) rfl (fun ls hl => ?_)
            refine lv_iload hx hb dX6_found_71 (lv_at hl 0 rfl) ?_
            refine lv_if_eq (tgt := 83) hx hb dX6_found_73 (by decide) (fun c_11 => ?_) (fun c_11 => ?_)
            · have hf := zx_pos c_11 hf
              refine lv_iconst (v := (0 : Int32)) hx hb dX6_found_83 (by decide) ?_
              refine lv_istore (lv' := [(7, .int (0 : Int32)), (6, .int r_10), (5, .ref (ad (zsO (x1.toNatClampNeg)))), (0, .ref (ad 0)), (1, .int x1), (2, .int x2), (3, .int x3), (4, .int x4)]) hx hb dX6_found_84 hl (by decide) rfl (fun ls hl => ?_)
              refine lv_iconst (v := (0 : Int32)) hx hb dX6_found_86 (by decide) ?_
              refine lv_istore (lv' := [(8, .int (0 : Int32)), (7, .int (0 : Int32)), (6, .int r_10), (5, .ref (ad (zsO (x1.toNatClampNeg)))), (0, .ref (ad 0)), (1, .int x1), (2, .int x2), (3, .int x3), (4, .int x4)]) hx hb dX6_found_87 hl (by decide) rfl (fun ls hl => ?_)
              have loop89 : ∀ (q89_5 : Nat) (hq89_5 : q89_5 < 4) (n : Nat) (v3 : Int32) (v4 : Int32) (v7 : Int32) (v8 : Int32) (I : zxI) (H : Heap) (locs : List Loc) (ls : Array Slot), fX6_found_L89 q89_5 n v3 v4 v7 v8 I = some (r, J) → zxAt D shX ad cA I s sz H locs → lv_has ls 10 [(0, .ref (ad 0)), (3, .int v3), (4, .int v4), (5, .ref (ad (zsO q89_5))), (7, .int v7), (8, .int v8)] → W p l e (headSpec wsX6_found { frames := 6, cells := 0, slots := 0, locals := 134 }).room s m args below meth c H locs 0 0 (MQ below (va_Qi (fun (r2 : Int32) (I2 : zxI) => r2 = r ∧ I2 = J) (zxPost D shX ad cA sz) (zxA shX ad sz)) args s 0 0 (zxA shX ad sz)) (F0 m 89 ls []) := by
                intro q89_5 hq89_5 n
                induction n with
                | zero =>
                  intro v3 v4 v7 v8 I H locs ls hf hG hl
                  rw [fX6_found_L89] at hf
                  cases hf
                | succ n89 ih89 =>
                  intro v3 v4 v7 v8 I H locs ls hf hG hl
                  rw [fX6_found_L89] at hf
                  refine lv_iload hx hb dX6_found_89 (lv_at hl 5 rfl) ?_
                  refine lv_aload_n hx hb dX6_found_91 rfl (lv_at hl 0 rfl) ?_
                  refine zx_getR (d := 10) hx hb hts hiX6 hown hG shX_0 vc_6 1 (by decide) rfl L3 dX6_found_92 ?_
                  refine zx_getI hx hb hts hiX2 hown hG shX_10 vc_2 0 (by decide) rfl L4 dX6_found_95 ?_
                  refine lv_icmp_ge (tgt := 168) hx hb dX6_found_98 (by decide) (fun c_12 => ?_) (fun c_12 => ?_)
                  · have hf := zx_pos c_12 hf
                    refine lv_iload hx hb dX6_found_168 (lv_at hl 2 rfl) ?_
                    refine lv_iconst (v := (-1 : Int32)) hx hb dX6_found_170 (by decide) ?_
                    refine lv_icmp_ne (tgt := 179) hx hb dX6_found_171 (by decide) (fun c_13 => ?_) (fun c_13 => ?_)
                    · have hf := zx_neg c_13 hf
                      refine lv_bipush (v := (-9 : Int32)) hx hb dX6_found_179 (by decide) ?_
                      exact zx_iret hx hb hr hlocks rfl hG hf dX6_found_181
                    · have hf := zx_pos c_13 hf
                      refine lv_iload hx hb dX6_found_174 (lv_at hl 4 rfl) ?_
                      refine lv_goto (tgt := 181) hx hb dX6_found_176 (by decide) ?_
                      exact zx_iret hx hb hr hlocks rfl hG hf dX6_found_181
                  · have hf := zx_neg c_12 hf
                    refine lv_iconst (v := (0 : Int32)) hx hb dX6_found_101 (by decide) ?_
                    refine lv_istore (lv' := [(9, .int (0 : Int32)), (0, .ref (ad 0)), (3, .int v3), (4, .int v4), (5, .ref (ad (zsO q89_5))), (7, .int v7), (8, .int v8)]) hx hb dX6_found_102 hl (by decide) rfl (fun ls hl => ?_)
                    have loop104 : ∀ (n : Nat) (v3 : Int32) (v4 : Int32) (v7 : Int32) (v8 : Int32) (v9 : Int32) (I : zxI) (H : Heap) (locs : List Loc) (ls : Array Slot), fX6_found_L104 (fun a0 a1 a2 a3 I => (fX6_found_L89 q89_5 n89 a0 a1 a2 a3 I)) q89_5 n v3 v4 v7 v8 v9 I = some (r, J) → zxAt D shX ad cA I s sz H locs → lv_has ls 10 [(0, .ref (ad 0)), (3, .int v3), (4, .int v4), (5, .ref (ad (zsO q89_5))), (7, .int v7), (8, .int v8), (9, .int v9)] → W p l e (headSpec wsX6_found { frames := 6, cells := 0, slots := 0, locals := 134 }).room s m args below meth c H locs 0 0 (MQ below (va_Qi (fun (r2 : Int32) (I2 : zxI) => r2 = r ∧ I2 = J) (zxPost D shX ad cA sz) (zxA shX ad sz)) args s 0 0 (zxA shX ad sz)) (F0 m 104 ls []) := by
                      intro n
                      induction n with
                      | zero =>
                        intro v3 v4 v7 v8 v9 I H locs ls hf hG hl
                        rw [fX6_found_L104] at hf
                        cases hf
                      | succ n104 ih104 =>
                        intro v3 v4 v7 v8 v9 I H locs ls hf hG hl
                        rw [fX6_found_L104] at hf
                        refine lv_iload hx hb dX6_found_104 (lv_at hl 6 rfl) ?_
                        refine lv_aload_n hx hb dX6_found_106 rfl (lv_at hl 0 rfl) ?_
                        refine zx_getR (d := 10) hx hb hts hiX6 hown hG shX_0 vc_6 1 (by decide) rfl L3 dX6_found_107 ?_
                        refine zx_getI hx hb hts hiX2 hown hG shX_10 vc_2 1 (by decide) rfl L5 dX6_found_110 ?_
                        refine lv_icmp_ge (tgt := 162) hx hb dX6_found_113 (by decide) (fun c_14 => ?_) (fun c_14 => ?_)
                        · have hf := zx_pos c_14 hf
                          refine lv_iinc (v := (v8 + (1 : Int32))) (lv' := [(8, .int (v8 + (1 : Int32))), (0, .ref (ad 0)), (3, .int v3), (4, .int v4), (5, .ref (ad (zsO q89_5))), (7, .int v7), (9, .int v9)]) hx hb dX6_found_162 hl (k := 5) rfl (congrArg (HAdd.hAdd v8) (by decide)) (by decide) rfl (fun ls hl => ?_)
                          refine lv_goto (tgt := 89) hx hb dX6_found_165 (by decide) ?_
                          exact ih89 v3 v4 v7 (v8 + (1 : Int32)) I _ _ ls hf hG (lv_sub hl [1, 2, 3, 4, 5, 0] rfl)
                        · have hf := zx_neg c_14 hf
                          refine lv_aload_n hx hb dX6_found_116 rfl (lv_at hl 0 rfl) ?_
                          refine lv_aload hx hb dX6_found_117 (lv_at hl 3 rfl) ?_
                          refine zx_getR (d := (zsC q89_5)) hx hb hts hiX5 hown hG (shX_sO hq89_5) vc_5 2 (by decide) rfl L6 dX6_found_119 ?_
                          refine lv_iload_n hx hb dX6_found_122 rfl (lv_at hl 1 rfl) ?_
                          refine lv_aload_n hx hb dX6_found_123 rfl (lv_at hl 0 rfl) ?_
                          refine lv_iload hx hb dX6_found_124 (lv_at hl 5 rfl) ?_
                          refine lv_iload hx hb dX6_found_126 (lv_at hl 6 rfl) ?_
                          obtain ⟨I_15, h_15, hf⟩ := zx_v hf
                          refine zx_callr (d := zaO 1) (va_runV (As := [.int v8, .int v9]) (rest := [.int v3, .ref (ad (zsC q89_5)), .ref (ad 0)]) ⟨hx, hb, hml, hown, hts⟩ (mX6_airBehind l D ad cA v8 v9 I I_15 h_15 _) (cwV 2 hts gX6_found_X6_airBehind rfl rfl rfl hd_X6_airBehind ⟨Nat.le_of_ble_eq_true rfl, Nat.le_of_ble_eq_true rfl⟩) (zx_preV hG shX_0 vc_6) rfl rfl hl.1 rfl (lv_room (Nat.le_of_ble_eq_true rfl)) dX6_found_128 ⟨Nat.le_refl _, Nat.le_refl _⟩) hG (fun H locs hG => ?_)
                          obtain ⟨r_16, I_16, h_16, hf⟩ := zx_b hf
                          refine zx_calli (va_runV (As := [.ref (ad (zsC q89_5)), .int v3, .ref (ad (zaO 1))]) (rest := []) ⟨hx, hb, hml, hown, hts⟩ (mX6_isAsTold l D ad cA q89_5 1 hq89_5 (by decide : 1 < 8) v3 I_15 r_16 I_16 h_16 _) (cwV 3 hts gX6_found_X6_isAsTold rfl rfl rfl hd_X6_isAsTold ⟨Nat.le_of_ble_eq_true rfl, Nat.le_of_ble_eq_true rfl⟩) (zx_preV hG shX_0 vc_6) rfl rfl hl.1 rfl (lv_room (Nat.le_of_ble_eq_true rfl)) dX6_found_131 ⟨Nat.le_refl _, Nat.le_refl _⟩) hG (fun H locs hG => ?_)
                          refine lv_if_eq (tgt := 156) hx hb dX6_found_134 (by decide) (fun c_17 => ?_) (fun c_17 => ?_)
                          · have hf := zx_pos c_17 hf
                            refine lv_iinc (v := (v9 + (1 : Int32))) (lv' := [(9, .int (v9 + (1 : Int32))), (0, .ref (ad 0)), (3, .int v3), (4, .int v4), (5, .ref (ad (zsO q89_5))), (7, .int v7), (8, .int v8)]) hx hb dX6_found_156 hl (k := 6) rfl (congrArg (HAdd.hAdd v9) (by decide)) (by decide) rfl (fun ls hl => ?_)
                            refine lv_goto (tgt := 104) hx hb dX6_found_159 (by decide) ?_
                            exact ih104 v3 v4 v7 v8 (v9 + (1 : Int32)) I_16 _ _ ls hf hG (lv_sub hl [1, 2, 3, 4, 5, 6, 0] rfl)
                          · have hf := zx_neg c_17 hf
                            refine lv_iload hx hb dX6_found_137 (lv_at hl 4 rfl) ?_
                            refine lv_iload hx hb dX6_found_139 (lv_at hl 2 rfl) ?_
                            refine lv_icmp_ne (tgt := 153) hx hb dX6_found_141 (by decide) (fun c_18 => ?_) (fun c_18 => ?_)
                            · have hf := zx_neg c_18 hf
                              refine lv_iinc (v := (v7 + (1 : Int32))) (lv' := [(7, .int (v7 + (1 : Int32))), (0, .ref (ad 0)), (3, .int v3), (4, .int v4), (5, .ref (ad (zsO q89_5))), (8, .int v8), (9, .int v9)]) hx hb dX6_found_153 hl (k := 4) rfl (congrArg (HAdd.hAdd v7) (by decide)) (by decide) rfl (fun ls hl => ?_)
                              refine lv_iinc (v := (v9 + (1 : Int32))) (lv' := [(9, .int (v9 + (1 : Int32))), (7, .int (v7 + (1 : Int32))), (0, .ref (ad 0)), (3, .int v3), (4, .int v4), (5, .ref (ad (zsO q89_5))), (8, .int v8)]) hx hb dX6_found_156 hl (k := 6) rfl (congrArg (HAdd.hAdd v9) (by decide)) (by decide) rfl (fun ls hl => ?_)
                              refine lv_goto (tgt := 104) hx hb dX6_found_159 (by decide) ?_
                              exact ih104 v3 v4 (v7 + (1 : Int32)) v8 (v9 + (1 : Int32)) I_16 _ _ ls hf hG (lv_sub hl [2, 3, 4, 5, 1, 6, 0] rfl)
                            · have hf := zx_pos c_18 hf
                              refine lv_bipush (v := (10 : Int32)) hx hb dX6_found_144 (by decide) ?_
                              refine lv_iload hx hb dX6_found_146 (lv_at hl 5 rfl) ?_
                              refine lv_imul hx hb dX6_found_148 ?_
                              refine lv_iload hx hb dX6_found_149 (lv_at hl 6 rfl) ?_
                              refine lv_iadd hx hb dX6_found_151 ?_
                              exact zx_iret hx hb hr hlocks rfl hG hf dX6_found_152
                    exact loop104 _ v3 v4 v7 v8 (0 : Int32) I _ _ ls hf hG (lv_sub hl [1, 2, 3, 4, 5, 6, 0] rfl)
              exact loop89 (x1.toNatClampNeg) (zx_lt g_9) _ x3 x4 (0 : Int32) (0 : Int32) I_10 _ _ ls hf hG (lv_sub hl [4, 7, 8, 3, 1, 0] rfl)
            · have hf := zx_neg c_11 hf
              refine lv_aload_n hx hb dX6_found_76 rfl (lv_at hl 2 rfl) ?_
              refine lv_iload hx hb dX6_found_77 (lv_at hl 0 rfl) ?_
              obtain ⟨r_19, I_19, h_19, hf⟩ := zx_b hf
              refine zx_calli (va_runV (As := [.int r_10]) (rest := []) ⟨hx, hb, hml, hown, hts⟩ (mX6_faulted l D ad cA r_10 I_10 r_19 I_19 h_19 _) (cwV 1 hts gX6_found_X6_faulted rfl rfl rfl hd_X6_faulted ⟨Nat.le_of_ble_eq_true rfl, Nat.le_of_ble_eq_true rfl⟩) (zx_preV hG shX_0 vc_6) rfl rfl hl.1 rfl (lv_room (Nat.le_of_ble_eq_true rfl)) dX6_found_79 ⟨Nat.le_refl _, Nat.le_refl _⟩) hG (fun H locs hG => ?_)
              exact zx_iret hx hb hr hlocks rfl hG hf dX6_found_82
          · have hf := zx_pos c_8 hf
            refine lv_bipush (v := (-3 : Int32)) hx hb dX6_found_44 (by decide) ?_
            exact zx_iret hx hb hr hlocks rfl hG hf dX6_found_46
        · have hf := zx_neg c_6 hf
          refine lv_bipush (v := (-2 : Int32)) hx hb dX6_found_34 (by decide) ?_
          exact zx_iret hx hb hr hlocks rfl hG hf dX6_found_36
  · have hf := zx_pos c_2 hf
    refine lv_iconst (v := (-1 : Int32)) hx hb dX6_found_12 (by decide) ?_
    exact zx_iret hx hb hr hlocks rfl hG hf dX6_found_13

set_option maxHeartbeats 4000000 in
set_option maxRecDepth 100000 in
theorem mX6_reading (l : Launch) (D : va_G) (ad : Nat → Nat) (cA : Nat → ClassId) (x1 : Int32) (x2 : Int32) (x3 : Int32) (I : zxI) (r : Int32) (J : zxI) (hf : fX6_reading x1 x2 x3 I = some (r, J)) (sz : Nat) : Met l yX6_reading wsX6_reading { frames := 1, cells := 0, slots := 0, locals := 24 } (va_Pc [.ref (ad 0), .int x1, .int x2, .int x3] (zxPre D shX ad cA I sz)) (va_Qi (fun (r2 : Int32) (I2 : zxI) => r2 = r ∧ I2 = J) (zxPost D shX ad cA sz) (zxA shX ad sz)) 0 0 (zxA shX ad sz) := by
  refine zx_start (by decide) rfl (Nat.le_of_ble_eq_true rfl) ?_
  intro p e s m args below meth c ls hx hb hr hts hown hlocks hml hG hl
  have hl : lv_has ls 4 [(0, .ref (ad 0)), (1, .int x1), (2, .int x2), (3, .int x3)] := hl
  have hiX3 : ∀ w ∈ wsX30, w ∈ wsX6_reading := fun w h => List.mem_cons_of_mem _ (List.mem_append_left _ (List.mem_append_right _ h))
  have hiX6 : ∀ w ∈ wsX60, w ∈ wsX6_reading := fun w h => List.mem_cons_of_mem _ (List.mem_append_left _ (List.mem_append_left _ (List.mem_append_right _ h)))
  have L1 := hts (Cond.fieldLink RX6 34 "GalleryBirds" "readings" "LGalleryBirds$Readings;") (List.mem_of_getElem? (i := 1) rfl)
  have L2 := hts (Cond.fieldLink RX6 206 "GalleryBirds$Readings" "count" "I") (List.mem_of_getElem? (i := 2) rfl)
  unfold fX6_reading at hf
  refine lv_aload_n hx hb dX6_reading_0 rfl (lv_at hl 0 rfl) ?_
  refine lv_iload_n hx hb dX6_reading_1 rfl (lv_at hl 1 rfl) ?_
  obtain ⟨r_1, I_1, h_1, hf⟩ := zx_b hf
  refine zx_calli (va_runV (As := [.int x1]) (rest := []) ⟨hx, hb, hml, hown, hts⟩ (mX6_isGallery l D ad cA x1 I r_1 I_1 h_1 _) (cwV 1 hts gX6_reading_X6_isGallery rfl rfl rfl hd_X6_isGallery ⟨Nat.le_of_ble_eq_true rfl, Nat.le_of_ble_eq_true rfl⟩) (zx_preV hG shX_0 vc_6) rfl rfl hl.1 rfl (lv_room (Nat.le_of_ble_eq_true rfl)) dX6_reading_2 ⟨Nat.le_refl _, Nat.le_refl _⟩) hG (fun H locs hG => ?_)
  refine lv_if_ne (tgt := 10) hx hb dX6_reading_5 (by decide) (fun c_2 => ?_) (fun c_2 => ?_)
  · have hf := zx_neg c_2 hf
    refine lv_iload_n hx hb dX6_reading_10 rfl (lv_at hl 2 rfl) ?_
    obtain ⟨r_3, I_3, h_3, hf⟩ := zx_b hf
    refine zx_calli (va_runS (As := [.int x2]) (rest := []) ⟨hx, hb, hml, hown, hts⟩ (mX6_isFoul l D ad cA x2 I_1 r_3 I_3 h_3 _) (va_cwS 1 hts gX6_reading_X6_isFoul rfl rfl rfl hd_X6_isFoul ⟨Nat.le_of_ble_eq_true rfl, Nat.le_of_ble_eq_true rfl⟩) (zx_preS hG) rfl rfl hl.1 rfl (lv_room (Nat.le_of_ble_eq_true rfl)) dX6_reading_11 ⟨Nat.le_refl _, Nat.le_refl _⟩) hG (fun H locs hG => ?_)
    refine lv_if_eq (tgt := 26) hx hb dX6_reading_14 (by decide) (fun c_4 => ?_) (fun c_4 => ?_)
    · have hf := zx_pos c_4 hf
      refine lv_bipush (v := (-2 : Int32)) hx hb dX6_reading_26 (by decide) ?_
      exact zx_iret hx hb hr hlocks rfl hG hf dX6_reading_28
    · have hf := zx_neg c_4 hf
      refine lv_iload_n hx hb dX6_reading_17 rfl (lv_at hl 3 rfl) ?_
      refine lv_if_eq (tgt := 29) hx hb dX6_reading_18 (by decide) (fun c_5 => ?_) (fun c_5 => ?_)
      · have hf := zx_pos c_5 hf
        refine lv_aload_n hx hb dX6_reading_29 rfl (lv_at hl 0 rfl) ?_
        refine zx_getR (d := 31) hx hb hts hiX6 hown hG shX_0 vc_6 3 (by decide) rfl L1 dX6_reading_30 ?_
        refine zx_getI hx hb hts hiX3 hown hG shX_31 vc_3 0 (by decide) rfl L2 dX6_reading_33 ?_
        refine lv_bipush (v := (8 : Int32)) hx hb dX6_reading_36 (by decide) ?_
        refine lv_icmp_lt (tgt := 44) hx hb dX6_reading_38 (by decide) (fun c_6 => ?_) (fun c_6 => ?_)
        · have hf := zx_pos c_6 hf
          refine lv_aload_n hx hb dX6_reading_44 rfl (lv_at hl 0 rfl) ?_
          refine zx_getR (d := 31) hx hb hts hiX6 hown hG shX_0 vc_6 3 (by decide) rfl L1 dX6_reading_45 ?_
          refine lv_iload_n hx hb dX6_reading_48 rfl (lv_at hl 1 rfl) ?_
          refine lv_iload_n hx hb dX6_reading_49 rfl (lv_at hl 2 rfl) ?_
          refine lv_iload_n hx hb dX6_reading_50 rfl (lv_at hl 3 rfl) ?_
          obtain ⟨r_7, I_7, h_7, hf⟩ := zx_b hf
          refine zx_calli (va_runV (As := [.int x1, .int x2, .int x3]) (rest := []) ⟨hx, hb, hml, hown, hts⟩ (mX3_write l D ad cA x1 x2 x3 I_3 r_7 I_7 h_7 _) (cwV 3 hts gX6_reading_X3_write rfl rfl rfl hd_X3_write ⟨Nat.le_of_ble_eq_true rfl, Nat.le_of_ble_eq_true rfl⟩) (zx_preV hG shX_31 vc_3) rfl rfl hl.1 rfl (lv_room (Nat.le_of_ble_eq_true rfl)) dX6_reading_51 ⟨Nat.le_refl _, Nat.le_refl _⟩) hG (fun H locs hG => ?_)
          exact zx_iret hx hb hr hlocks rfl hG hf dX6_reading_54
        · have hf := zx_neg c_6 hf
          refine lv_bipush (v := (-4 : Int32)) hx hb dX6_reading_41 (by decide) ?_
          exact zx_iret hx hb hr hlocks rfl hG hf dX6_reading_43
      · have hf := zx_neg c_5 hf
        refine lv_iload_n hx hb dX6_reading_21 rfl (lv_at hl 3 rfl) ?_
        refine lv_iconst (v := (1 : Int32)) hx hb dX6_reading_22 (by decide) ?_
        refine lv_icmp_eq (tgt := 29) hx hb dX6_reading_23 (by decide) (fun c_8 => ?_) (fun c_8 => ?_)
        · have hf := zx_pos c_8 hf
          refine lv_aload_n hx hb dX6_reading_29 rfl (lv_at hl 0 rfl) ?_
          refine zx_getR (d := 31) hx hb hts hiX6 hown hG shX_0 vc_6 3 (by decide) rfl L1 dX6_reading_30 ?_
          refine zx_getI hx hb hts hiX3 hown hG shX_31 vc_3 0 (by decide) rfl L2 dX6_reading_33 ?_
          refine lv_bipush (v := (8 : Int32)) hx hb dX6_reading_36 (by decide) ?_
          refine lv_icmp_lt (tgt := 44) hx hb dX6_reading_38 (by decide) (fun c_9 => ?_) (fun c_9 => ?_)
          · have hf := zx_pos c_9 hf
            refine lv_aload_n hx hb dX6_reading_44 rfl (lv_at hl 0 rfl) ?_
            refine zx_getR (d := 31) hx hb hts hiX6 hown hG shX_0 vc_6 3 (by decide) rfl L1 dX6_reading_45 ?_
            refine lv_iload_n hx hb dX6_reading_48 rfl (lv_at hl 1 rfl) ?_
            refine lv_iload_n hx hb dX6_reading_49 rfl (lv_at hl 2 rfl) ?_
            refine lv_iload_n hx hb dX6_reading_50 rfl (lv_at hl 3 rfl) ?_
            obtain ⟨r_10, I_10, h_10, hf⟩ := zx_b hf
            refine zx_calli (va_runV (As := [.int x1, .int x2, .int x3]) (rest := []) ⟨hx, hb, hml, hown, hts⟩ (mX3_write l D ad cA x1 x2 x3 I_3 r_10 I_10 h_10 _) (cwV 3 hts gX6_reading_X3_write rfl rfl rfl hd_X3_write ⟨Nat.le_of_ble_eq_true rfl, Nat.le_of_ble_eq_true rfl⟩) (zx_preV hG shX_31 vc_3) rfl rfl hl.1 rfl (lv_room (Nat.le_of_ble_eq_true rfl)) dX6_reading_51 ⟨Nat.le_refl _, Nat.le_refl _⟩) hG (fun H locs hG => ?_)
            exact zx_iret hx hb hr hlocks rfl hG hf dX6_reading_54
          · have hf := zx_neg c_9 hf
            refine lv_bipush (v := (-4 : Int32)) hx hb dX6_reading_41 (by decide) ?_
            exact zx_iret hx hb hr hlocks rfl hG hf dX6_reading_43
        · have hf := zx_neg c_8 hf
          refine lv_bipush (v := (-2 : Int32)) hx hb dX6_reading_26 (by decide) ?_
          exact zx_iret hx hb hr hlocks rfl hG hf dX6_reading_28
  · have hf := zx_pos c_2 hf
    refine lv_iconst (v := (-1 : Int32)) hx hb dX6_reading_8 (by decide) ?_
    exact zx_iret hx hb hr hlocks rfl hG hf dX6_reading_9

set_option maxHeartbeats 4000000 in
set_option maxRecDepth 100000 in
theorem mX6_back (l : Launch) (D : va_G) (ad : Nat → Nat) (cA : Nat → ClassId) (x1 : Int32) (I : zxI) (r : Int32) (J : zxI) (hf : fX6_back x1 I = some (r, J)) (sz : Nat) : Met l yX6_back wsX6_back { frames := 0, cells := 0, slots := 0, locals := 0 } (va_Pc [.ref (ad 0), .int x1] (zxPre D shX ad cA I sz)) (va_Qi (fun (r2 : Int32) (I2 : zxI) => r2 = r ∧ I2 = J) (zxPost D shX ad cA sz) (zxA shX ad sz)) 0 0 (zxA shX ad sz) := by
  refine zx_start (by decide) rfl (Nat.le_of_ble_eq_true rfl) ?_
  intro p e s m args below meth c ls hx hb hr hts hown hlocks hml hG hl
  have hl : lv_has ls 2 [(0, .ref (ad 0)), (1, .int x1)] := hl
  have hiX3 : ∀ w ∈ wsX30, w ∈ wsX6_back := fun w h => List.mem_cons_of_mem _ (List.mem_append_right _ h)
  have hiX6 : ∀ w ∈ wsX60, w ∈ wsX6_back := fun w h => List.mem_cons_of_mem _ (List.mem_append_left _ (List.mem_append_right _ h))
  have L1 := hts (Cond.fieldLink RX6 34 "GalleryBirds" "readings" "LGalleryBirds$Readings;") (List.mem_of_getElem? (i := 1) rfl)
  have L2 := hts (Cond.fieldLink RX6 206 "GalleryBirds$Readings" "count" "I") (List.mem_of_getElem? (i := 2) rfl)
  unfold fX6_back at hf
  refine lv_iload_n hx hb dX6_back_0 rfl (lv_at hl 1 rfl) ?_
  refine lv_if_lt (tgt := 15) hx hb dX6_back_1 (by decide) (fun c_1 => ?_) (fun c_1 => ?_)
  · have hf := zx_pos c_1 hf
    refine lv_bipush (v := (-2 : Int32)) hx hb dX6_back_15 (by decide) ?_
    exact zx_iret hx hb hr hlocks rfl hG hf dX6_back_17
  · have hf := zx_neg c_1 hf
    refine lv_iload_n hx hb dX6_back_4 rfl (lv_at hl 1 rfl) ?_
    refine lv_aload_n hx hb dX6_back_5 rfl (lv_at hl 0 rfl) ?_
    refine zx_getR (d := 31) hx hb hts hiX6 hown hG shX_0 vc_6 3 (by decide) rfl L1 dX6_back_6 ?_
    refine zx_getI hx hb hts hiX3 hown hG shX_31 vc_3 0 (by decide) rfl L2 dX6_back_9 ?_
    refine lv_icmp_le (tgt := 18) hx hb dX6_back_12 (by decide) (fun c_2 => ?_) (fun c_2 => ?_)
    · have hf := zx_pos c_2 hf
      refine lv_aload_n hx hb dX6_back_18 rfl (lv_at hl 0 rfl) ?_
      refine zx_getR (d := 31) hx hb hts hiX6 hown hG shX_0 vc_6 3 (by decide) rfl L1 dX6_back_19 ?_
      refine lv_dup hx hb dX6_back_22 rfl ?_
      refine zx_getI hx hb hts hiX3 hown hG shX_31 vc_3 0 (by decide) rfl L2 dX6_back_23 ?_
      refine lv_iload_n hx hb dX6_back_26 rfl (lv_at hl 1 rfl) ?_
      refine lv_isub hx hb dX6_back_27 ?_
      refine zx_putI hx hb hts hiX3 tyX3 tyX3_ok nmX3 hown hG shX_31 vc_3 0 (by decide) rfl L2 rfl (ty := .int) (tyX3_ok 0 (by decide)) rfl rfl dX6_back_28 (fun H locs hG => ?_)
      refine lv_aload_n hx hb dX6_back_31 rfl (lv_at hl 0 rfl) ?_
      refine zx_getR (d := 31) hx hb hts hiX6 hown hG shX_0 vc_6 3 (by decide) rfl L1 dX6_back_32 ?_
      refine zx_getI hx hb hts hiX3 hown hG shX_31 vc_3 0 (by decide) rfl L2 dX6_back_35 ?_
      exact zx_iret hx hb hr hlocks rfl hG hf dX6_back_38
    · have hf := zx_neg c_2 hf
      refine lv_bipush (v := (-2 : Int32)) hx hb dX6_back_15 (by decide) ?_
      exact zx_iret hx hb hr hlocks rfl hG hf dX6_back_17

set_option maxHeartbeats 4000000 in
set_option maxRecDepth 100000 in
theorem mX6_strengths (l : Launch) (D : va_G) (ad : Nat → Nat) (cA : Nat → ClassId) (x1 : Int32) (I : zxI) (r : Int32) (J : zxI) (hf : fX6_strengths x1 I = some (r, J)) (sz : Nat) : Met l yX6_strengths wsX6_strengths { frames := 3, cells := 0, slots := 0, locals := 68 } (va_Pc [.ref (ad 0), .int x1] (zxPre D shX ad cA I sz)) (va_Qi (fun (r2 : Int32) (I2 : zxI) => r2 = r ∧ I2 = J) (zxPost D shX ad cA sz) (zxA shX ad sz)) 0 0 (zxA shX ad sz) := by
  refine zx_start (by decide) rfl (Nat.le_of_ble_eq_true rfl) ?_
  intro p e s m args below meth c ls hx hb hr hts hown hlocks hml hG hl
  have hl : lv_has ls 4 [(0, .ref (ad 0)), (1, .int x1)] := hl
  have hiX2 : ∀ w ∈ wsX20, w ∈ wsX6_strengths := fun w h => List.mem_cons_of_mem _ (List.mem_append_left _ (List.mem_append_right _ h))
  have hiX6 : ∀ w ∈ wsX60, w ∈ wsX6_strengths := fun w h => List.mem_cons_of_mem _ (List.mem_append_left _ (List.mem_append_left _ (List.mem_append_right _ h)))
  have L1 := hts (Cond.fieldLink RX6 34 "GalleryBirds" "readings" "LGalleryBirds$Readings;") (List.mem_of_getElem? (i := 1) rfl)
  have L2 := hts (Cond.fieldLink RX6 20 "GalleryBirds" "pit" "LGalleryBirds$Pit;") (List.mem_of_getElem? (i := 2) rfl)
  have L3 := hts (Cond.fieldLink RX6 103 "GalleryBirds$Pit" "kinds" "[I") (List.mem_of_getElem? (i := 3) rfl)
  unfold fX6_strengths at hf
  refine lv_aload_n hx hb dX6_strengths_0 rfl (lv_at hl 0 rfl) ?_
  refine lv_iload_n hx hb dX6_strengths_1 rfl (lv_at hl 1 rfl) ?_
  obtain ⟨r_1, I_1, h_1, hf⟩ := zx_b hf
  refine zx_calli (va_runV (As := [.int x1]) (rest := []) ⟨hx, hb, hml, hown, hts⟩ (mX6_isGallery l D ad cA x1 I r_1 I_1 h_1 _) (cwV 1 hts gX6_strengths_X6_isGallery rfl rfl rfl hd_X6_isGallery ⟨Nat.le_of_ble_eq_true rfl, Nat.le_of_ble_eq_true rfl⟩) (zx_preV hG shX_0 vc_6) rfl rfl hl.1 rfl (lv_room (Nat.le_of_ble_eq_true rfl)) dX6_strengths_2 ⟨Nat.le_refl _, Nat.le_refl _⟩) hG (fun H locs hG => ?_)
  refine lv_if_ne (tgt := 10) hx hb dX6_strengths_5 (by decide) (fun c_2 => ?_) (fun c_2 => ?_)
  · have hf := zx_neg c_2 hf
    refine lv_iconst (v := (0 : Int32)) hx hb dX6_strengths_10 (by decide) ?_
    refine lv_istore_n (lv' := [(2, .int (0 : Int32)), (0, .ref (ad 0)), (1, .int x1)]) hx hb dX6_strengths_11 rfl hl (by decide) rfl (fun ls hl => ?_)
    refine lv_iconst (v := (1 : Int32)) hx hb dX6_strengths_12 (by decide) ?_
    refine lv_istore_n (lv' := [(3, .int (1 : Int32)), (2, .int (0 : Int32)), (0, .ref (ad 0)), (1, .int x1)]) hx hb dX6_strengths_13 rfl hl (by decide) rfl (fun ls hl => ?_)
    have loop14 : ∀ (n : Nat) (v1 : Int32) (v2 : Int32) (v3 : Int32) (I : zxI) (H : Heap) (locs : List Loc) (ls : Array Slot), fX6_strengths_L14 n v1 v2 v3 I = some (r, J) → zxAt D shX ad cA I s sz H locs → lv_has ls 4 [(0, .ref (ad 0)), (1, .int v1), (2, .int v2), (3, .int v3)] → W p l e (headSpec wsX6_strengths { frames := 3, cells := 0, slots := 0, locals := 68 }).room s m args below meth c H locs 0 0 (MQ below (va_Qi (fun (r2 : Int32) (I2 : zxI) => r2 = r ∧ I2 = J) (zxPost D shX ad cA sz) (zxA shX ad sz)) args s 0 0 (zxA shX ad sz)) (F0 m 14 ls []) := by
      intro n
      induction n with
      | zero =>
        intro v1 v2 v3 I H locs ls hf hG hl
        rw [fX6_strengths_L14] at hf
        cases hf
      | succ n14 ih14 =>
        intro v1 v2 v3 I H locs ls hf hG hl
        rw [fX6_strengths_L14] at hf
        refine lv_iload_n hx hb dX6_strengths_14 rfl (lv_at hl 3 rfl) ?_
        refine lv_bipush (v := (9 : Int32)) hx hb dX6_strengths_15 (by decide) ?_
        refine lv_icmp_gt (tgt := 60) hx hb dX6_strengths_17 (by decide) (fun c_3 => ?_) (fun c_3 => ?_)
        · have hf := zx_pos c_3 hf
          refine lv_iload_n hx hb dX6_strengths_60 rfl (lv_at hl 2 rfl) ?_
          exact zx_iret hx hb hr hlocks rfl hG hf dX6_strengths_61
        · have hf := zx_neg c_3 hf
          refine lv_aload_n hx hb dX6_strengths_20 rfl (lv_at hl 0 rfl) ?_
          refine zx_getR (d := 31) hx hb hts hiX6 hown hG shX_0 vc_6 3 (by decide) rfl L1 dX6_strengths_21 ?_
          refine lv_aload_n hx hb dX6_strengths_24 rfl (lv_at hl 0 rfl) ?_
          refine zx_getR (d := 10) hx hb hts hiX6 hown hG shX_0 vc_6 1 (by decide) rfl L2 dX6_strengths_25 ?_
          refine lv_iload_n hx hb dX6_strengths_28 rfl (lv_at hl 1 rfl) ?_
          refine lv_aload_n hx hb dX6_strengths_29 rfl (lv_at hl 0 rfl) ?_
          refine zx_getR (d := 10) hx hb hts hiX6 hown hG shX_0 vc_6 1 (by decide) rfl L2 dX6_strengths_30 ?_
          refine zx_getR (d := 12) hx hb hts hiX2 hown hG shX_10 vc_2 3 (by decide) rfl L3 dX6_strengths_33 ?_
          refine lv_iload_n hx hb dX6_strengths_36 rfl (lv_at hl 1 rfl) ?_
          obtain ⟨g_4, hf⟩ := zx_in hf
          refine zx_ald hx hb hG shX_12 g_4 dX6_strengths_37 ?_
          refine lv_iload_n hx hb dX6_strengths_38 rfl (lv_at hl 3 rfl) ?_
          obtain ⟨r_5, I_5, h_5, hf⟩ := zx_b hf
          refine zx_calli (va_runS (As := [.int (I 12 v1.toNatClampNeg), .int v3]) (rest := [.int v1, .ref (ad 10), .ref (ad 31)]) ⟨hx, hb, hml, hown, hts⟩ (mX6_bearing l D ad cA (I 12 v1.toNatClampNeg) v3 I r_5 I_5 h_5 _) (va_cwS 2 hts gX6_strengths_X6_bearing rfl rfl rfl hd_X6_bearing ⟨Nat.le_of_ble_eq_true rfl, Nat.le_of_ble_eq_true rfl⟩) (zx_preS hG) rfl rfl hl.1 rfl (lv_room (Nat.le_of_ble_eq_true rfl)) dX6_strengths_39 ⟨Nat.le_refl _, Nat.le_refl _⟩) hG (fun H locs hG => ?_)
          obtain ⟨r_6, I_6, h_6, hf⟩ := zx_b hf
          refine zx_calli (va_runV (As := [.ref (ad 10), .int v1, .int r_5]) (rest := []) ⟨hx, hb, hml, hown, hts⟩ (mX3_areSo l D ad cA v1 r_5 I_5 r_6 I_6 h_6 _) (cwV 3 hts gX6_strengths_X3_areSo rfl rfl rfl hd_X3_areSo ⟨Nat.le_of_ble_eq_true rfl, Nat.le_of_ble_eq_true rfl⟩) (zx_preV hG shX_31 vc_3) rfl rfl hl.1 rfl (lv_room (Nat.le_of_ble_eq_true rfl)) dX6_strengths_42 ⟨Nat.le_refl _, Nat.le_refl _⟩) hG (fun H locs hG => ?_)
          refine lv_if_eq (tgt := 54) hx hb dX6_strengths_45 (by decide) (fun c_7 => ?_) (fun c_7 => ?_)
          · have hf := zx_pos c_7 hf
            refine lv_iinc (v := (v3 + (1 : Int32))) (lv' := [(3, .int (v3 + (1 : Int32))), (0, .ref (ad 0)), (1, .int v1), (2, .int v2)]) hx hb dX6_strengths_54 hl (k := 3) rfl (congrArg (HAdd.hAdd v3) (by decide)) (by decide) rfl (fun ls hl => ?_)
            refine lv_goto (tgt := 14) hx hb dX6_strengths_57 (by decide) ?_
            exact ih14 v1 v2 (v3 + (1 : Int32)) I_6 _ _ ls hf hG (lv_sub hl [1, 2, 3, 0] rfl)
          · have hf := zx_neg c_7 hf
            refine lv_iload_n hx hb dX6_strengths_48 rfl (lv_at hl 2 rfl) ?_
            refine lv_iconst (v := (1 : Int32)) hx hb dX6_strengths_49 (by decide) ?_
            refine lv_iload_n hx hb dX6_strengths_50 rfl (lv_at hl 3 rfl) ?_
            refine lv_ishl hx hb dX6_strengths_51 ?_
            refine lv_ior hx hb dX6_strengths_52 ?_
            refine lv_istore_n (lv' := [(2, .int (v2 ||| ((1 : Int32) <<< (v3 &&& 31)))), (0, .ref (ad 0)), (1, .int v1), (3, .int v3)]) hx hb dX6_strengths_53 rfl hl (by decide) rfl (fun ls hl => ?_)
            refine lv_iinc (v := (v3 + (1 : Int32))) (lv' := [(3, .int (v3 + (1 : Int32))), (2, .int (v2 ||| ((1 : Int32) <<< (v3 &&& 31)))), (0, .ref (ad 0)), (1, .int v1)]) hx hb dX6_strengths_54 hl (k := 3) rfl (congrArg (HAdd.hAdd v3) (by decide)) (by decide) rfl (fun ls hl => ?_)
            refine lv_goto (tgt := 14) hx hb dX6_strengths_57 (by decide) ?_
            exact ih14 v1 (v2 ||| ((1 : Int32) <<< (v3 &&& 31))) (v3 + (1 : Int32)) I_6 _ _ ls hf hG (lv_sub hl [2, 3, 1, 0] rfl)
    exact loop14 _ x1 (0 : Int32) (1 : Int32) I_1 _ _ ls hf hG (lv_sub hl [2, 3, 1, 0] rfl)
  · have hf := zx_pos c_2 hf
    refine lv_iconst (v := (-1 : Int32)) hx hb dX6_strengths_8 (by decide) ?_
    exact zx_iret hx hb hr hlocks rfl hG hf dX6_strengths_9

set_option maxHeartbeats 4000000 in
set_option maxRecDepth 100000 in
theorem mX6_kinds (l : Launch) (D : va_G) (ad : Nat → Nat) (cA : Nat → ClassId) (x1 : Int32) (I : zxI) (r : Int32) (J : zxI) (hf : fX6_kinds x1 I = some (r, J)) (sz : Nat) : Met l yX6_kinds wsX6_kinds { frames := 3, cells := 0, slots := 0, locals := 68 } (va_Pc [.ref (ad 0), .int x1] (zxPre D shX ad cA I sz)) (va_Qi (fun (r2 : Int32) (I2 : zxI) => r2 = r ∧ I2 = J) (zxPost D shX ad cA sz) (zxA shX ad sz)) 0 0 (zxA shX ad sz) := by
  refine zx_start (by decide) rfl (Nat.le_of_ble_eq_true rfl) ?_
  intro p e s m args below meth c ls hx hb hr hts hown hlocks hml hG hl
  have hl : lv_has ls 4 [(0, .ref (ad 0)), (1, .int x1)] := hl
  have hiX2 : ∀ w ∈ wsX20, w ∈ wsX6_kinds := fun w h => List.mem_cons_of_mem _ (List.mem_append_left _ (List.mem_append_right _ h))
  have hiX6 : ∀ w ∈ wsX60, w ∈ wsX6_kinds := fun w h => List.mem_cons_of_mem _ (List.mem_append_left _ (List.mem_append_left _ (List.mem_append_right _ h)))
  have L1 := hts (Cond.fieldLink RX6 34 "GalleryBirds" "readings" "LGalleryBirds$Readings;") (List.mem_of_getElem? (i := 1) rfl)
  have L2 := hts (Cond.fieldLink RX6 20 "GalleryBirds" "pit" "LGalleryBirds$Pit;") (List.mem_of_getElem? (i := 2) rfl)
  have L3 := hts (Cond.fieldLink RX6 109 "GalleryBirds$Pit" "strengths" "[I") (List.mem_of_getElem? (i := 3) rfl)
  unfold fX6_kinds at hf
  refine lv_aload_n hx hb dX6_kinds_0 rfl (lv_at hl 0 rfl) ?_
  refine lv_iload_n hx hb dX6_kinds_1 rfl (lv_at hl 1 rfl) ?_
  obtain ⟨r_1, I_1, h_1, hf⟩ := zx_b hf
  refine zx_calli (va_runV (As := [.int x1]) (rest := []) ⟨hx, hb, hml, hown, hts⟩ (mX6_isGallery l D ad cA x1 I r_1 I_1 h_1 _) (cwV 1 hts gX6_kinds_X6_isGallery rfl rfl rfl hd_X6_isGallery ⟨Nat.le_of_ble_eq_true rfl, Nat.le_of_ble_eq_true rfl⟩) (zx_preV hG shX_0 vc_6) rfl rfl hl.1 rfl (lv_room (Nat.le_of_ble_eq_true rfl)) dX6_kinds_2 ⟨Nat.le_refl _, Nat.le_refl _⟩) hG (fun H locs hG => ?_)
  refine lv_if_ne (tgt := 10) hx hb dX6_kinds_5 (by decide) (fun c_2 => ?_) (fun c_2 => ?_)
  · have hf := zx_neg c_2 hf
    refine lv_iconst (v := (0 : Int32)) hx hb dX6_kinds_10 (by decide) ?_
    refine lv_istore_n (lv' := [(2, .int (0 : Int32)), (0, .ref (ad 0)), (1, .int x1)]) hx hb dX6_kinds_11 rfl hl (by decide) rfl (fun ls hl => ?_)
    refine lv_iconst (v := (0 : Int32)) hx hb dX6_kinds_12 (by decide) ?_
    refine lv_istore_n (lv' := [(3, .int (0 : Int32)), (2, .int (0 : Int32)), (0, .ref (ad 0)), (1, .int x1)]) hx hb dX6_kinds_13 rfl hl (by decide) rfl (fun ls hl => ?_)
    have loop14 : ∀ (n : Nat) (v1 : Int32) (v2 : Int32) (v3 : Int32) (I : zxI) (H : Heap) (locs : List Loc) (ls : Array Slot), fX6_kinds_L14 n v1 v2 v3 I = some (r, J) → zxAt D shX ad cA I s sz H locs → lv_has ls 4 [(0, .ref (ad 0)), (1, .int v1), (2, .int v2), (3, .int v3)] → W p l e (headSpec wsX6_kinds { frames := 3, cells := 0, slots := 0, locals := 68 }).room s m args below meth c H locs 0 0 (MQ below (va_Qi (fun (r2 : Int32) (I2 : zxI) => r2 = r ∧ I2 = J) (zxPost D shX ad cA sz) (zxA shX ad sz)) args s 0 0 (zxA shX ad sz)) (F0 m 14 ls []) := by
      intro n
      induction n with
      | zero =>
        intro v1 v2 v3 I H locs ls hf hG hl
        rw [fX6_kinds_L14] at hf
        cases hf
      | succ n14 ih14 =>
        intro v1 v2 v3 I H locs ls hf hG hl
        rw [fX6_kinds_L14] at hf
        refine lv_iload_n hx hb dX6_kinds_14 rfl (lv_at hl 3 rfl) ?_
        refine lv_iconst (v := (3 : Int32)) hx hb dX6_kinds_15 (by decide) ?_
        refine lv_icmp_ge (tgt := 59) hx hb dX6_kinds_16 (by decide) (fun c_3 => ?_) (fun c_3 => ?_)
        · have hf := zx_pos c_3 hf
          refine lv_iload_n hx hb dX6_kinds_59 rfl (lv_at hl 2 rfl) ?_
          exact zx_iret hx hb hr hlocks rfl hG hf dX6_kinds_60
        · have hf := zx_neg c_3 hf
          refine lv_aload_n hx hb dX6_kinds_19 rfl (lv_at hl 0 rfl) ?_
          refine zx_getR (d := 31) hx hb hts hiX6 hown hG shX_0 vc_6 3 (by decide) rfl L1 dX6_kinds_20 ?_
          refine lv_aload_n hx hb dX6_kinds_23 rfl (lv_at hl 0 rfl) ?_
          refine zx_getR (d := 10) hx hb hts hiX6 hown hG shX_0 vc_6 1 (by decide) rfl L2 dX6_kinds_24 ?_
          refine lv_iload_n hx hb dX6_kinds_27 rfl (lv_at hl 1 rfl) ?_
          refine lv_iload_n hx hb dX6_kinds_28 rfl (lv_at hl 3 rfl) ?_
          refine lv_aload_n hx hb dX6_kinds_29 rfl (lv_at hl 0 rfl) ?_
          refine zx_getR (d := 10) hx hb hts hiX6 hown hG shX_0 vc_6 1 (by decide) rfl L2 dX6_kinds_30 ?_
          refine zx_getR (d := 13) hx hb hts hiX2 hown hG shX_10 vc_2 4 (by decide) rfl L3 dX6_kinds_33 ?_
          refine lv_iload_n hx hb dX6_kinds_36 rfl (lv_at hl 1 rfl) ?_
          obtain ⟨g_4, hf⟩ := zx_in hf
          refine zx_ald hx hb hG shX_13 g_4 dX6_kinds_37 ?_
          obtain ⟨r_5, I_5, h_5, hf⟩ := zx_b hf
          refine zx_calli (va_runS (As := [.int v3, .int (I 13 v1.toNatClampNeg)]) (rest := [.int v1, .ref (ad 10), .ref (ad 31)]) ⟨hx, hb, hml, hown, hts⟩ (mX6_bearing l D ad cA v3 (I 13 v1.toNatClampNeg) I r_5 I_5 h_5 _) (va_cwS 2 hts gX6_kinds_X6_bearing rfl rfl rfl hd_X6_bearing ⟨Nat.le_of_ble_eq_true rfl, Nat.le_of_ble_eq_true rfl⟩) (zx_preS hG) rfl rfl hl.1 rfl (lv_room (Nat.le_of_ble_eq_true rfl)) dX6_kinds_38 ⟨Nat.le_refl _, Nat.le_refl _⟩) hG (fun H locs hG => ?_)
          obtain ⟨r_6, I_6, h_6, hf⟩ := zx_b hf
          refine zx_calli (va_runV (As := [.ref (ad 10), .int v1, .int r_5]) (rest := []) ⟨hx, hb, hml, hown, hts⟩ (mX3_areSo l D ad cA v1 r_5 I_5 r_6 I_6 h_6 _) (cwV 3 hts gX6_kinds_X3_areSo rfl rfl rfl hd_X3_areSo ⟨Nat.le_of_ble_eq_true rfl, Nat.le_of_ble_eq_true rfl⟩) (zx_preV hG shX_31 vc_3) rfl rfl hl.1 rfl (lv_room (Nat.le_of_ble_eq_true rfl)) dX6_kinds_41 ⟨Nat.le_refl _, Nat.le_refl _⟩) hG (fun H locs hG => ?_)
          refine lv_if_eq (tgt := 53) hx hb dX6_kinds_44 (by decide) (fun c_7 => ?_) (fun c_7 => ?_)
          · have hf := zx_pos c_7 hf
            refine lv_iinc (v := (v3 + (1 : Int32))) (lv' := [(3, .int (v3 + (1 : Int32))), (0, .ref (ad 0)), (1, .int v1), (2, .int v2)]) hx hb dX6_kinds_53 hl (k := 3) rfl (congrArg (HAdd.hAdd v3) (by decide)) (by decide) rfl (fun ls hl => ?_)
            refine lv_goto (tgt := 14) hx hb dX6_kinds_56 (by decide) ?_
            exact ih14 v1 v2 (v3 + (1 : Int32)) I_6 _ _ ls hf hG (lv_sub hl [1, 2, 3, 0] rfl)
          · have hf := zx_neg c_7 hf
            refine lv_iload_n hx hb dX6_kinds_47 rfl (lv_at hl 2 rfl) ?_
            refine lv_iconst (v := (1 : Int32)) hx hb dX6_kinds_48 (by decide) ?_
            refine lv_iload_n hx hb dX6_kinds_49 rfl (lv_at hl 3 rfl) ?_
            refine lv_ishl hx hb dX6_kinds_50 ?_
            refine lv_ior hx hb dX6_kinds_51 ?_
            refine lv_istore_n (lv' := [(2, .int (v2 ||| ((1 : Int32) <<< (v3 &&& 31)))), (0, .ref (ad 0)), (1, .int v1), (3, .int v3)]) hx hb dX6_kinds_52 rfl hl (by decide) rfl (fun ls hl => ?_)
            refine lv_iinc (v := (v3 + (1 : Int32))) (lv' := [(3, .int (v3 + (1 : Int32))), (2, .int (v2 ||| ((1 : Int32) <<< (v3 &&& 31)))), (0, .ref (ad 0)), (1, .int v1)]) hx hb dX6_kinds_53 hl (k := 3) rfl (congrArg (HAdd.hAdd v3) (by decide)) (by decide) rfl (fun ls hl => ?_)
            refine lv_goto (tgt := 14) hx hb dX6_kinds_56 (by decide) ?_
            exact ih14 v1 (v2 ||| ((1 : Int32) <<< (v3 &&& 31))) (v3 + (1 : Int32)) I_6 _ _ ls hf hG (lv_sub hl [2, 3, 1, 0] rfl)
    exact loop14 _ x1 (0 : Int32) (0 : Int32) I_1 _ _ ls hf hG (lv_sub hl [2, 3, 1, 0] rfl)
  · have hf := zx_pos c_2 hf
    refine lv_iconst (v := (-1 : Int32)) hx hb dX6_kinds_8 (by decide) ?_
    exact zx_iret hx hb hr hlocks rfl hG hf dX6_kinds_9

set_option maxHeartbeats 4000000 in
set_option maxRecDepth 100000 in
theorem mX6_commonDivisor (l : Launch) (D : va_G) (ad : Nat → Nat) (cA : Nat → ClassId) (x0 : Int32) (x1 : Int32) (I : zxI) (r : Int32) (J : zxI) (hf : fX6_commonDivisor x0 x1 I = some (r, J)) (sz : Nat) : Met l yX6_commonDivisor wsX6_commonDivisor { frames := 0, cells := 0, slots := 0, locals := 0 } (va_Pc [.int x0, .int x1] (zxPre D shX ad cA I sz)) (va_Qi (fun (r2 : Int32) (I2 : zxI) => r2 = r ∧ I2 = J) (zxPost D shX ad cA sz) (zxA shX ad sz)) 0 0 (zxA shX ad sz) := by
  refine zx_start (by decide) rfl (Nat.le_of_ble_eq_true rfl) ?_
  intro p e s m args below meth c ls hx hb hr hts hown hlocks hml hG hl
  have hl : lv_has ls 3 [(0, .int x0), (1, .int x1)] := hl
  unfold fX6_commonDivisor at hf
  refine lv_iload_n hx hb dX6_commonDivisor_0 rfl (lv_at hl 1 rfl) ?_
  refine lv_istore_n (lv' := [(2, .int x1), (0, .int x0), (1, .int x1)]) hx hb dX6_commonDivisor_1 rfl hl (by decide) rfl (fun ls hl => ?_)
  have loop2 : ∀ (n : Nat) (v0 : Int32) (v1 : Int32) (v2 : Int32) (I : zxI) (H : Heap) (locs : List Loc) (ls : Array Slot), fX6_commonDivisor_L2 n v0 v1 v2 I = some (r, J) → zxAt D shX ad cA I s sz H locs → lv_has ls 3 [(0, .int v0), (1, .int v1), (2, .int v2)] → W p l e (headSpec wsX6_commonDivisor { frames := 0, cells := 0, slots := 0, locals := 0 }).room s m args below meth c H locs 0 0 (MQ below (va_Qi (fun (r2 : Int32) (I2 : zxI) => r2 = r ∧ I2 = J) (zxPost D shX ad cA sz) (zxA shX ad sz)) args s 0 0 (zxA shX ad sz)) (F0 m 2 ls []) := by
    intro n
    induction n with
    | zero =>
      intro v0 v1 v2 I H locs ls hf hG hl
      rw [fX6_commonDivisor_L2] at hf
      cases hf
    | succ n2 ih2 =>
      intro v0 v1 v2 I H locs ls hf hG hl
      rw [fX6_commonDivisor_L2] at hf
      refine lv_iload_n hx hb dX6_commonDivisor_2 rfl (lv_at hl 2 rfl) ?_
      refine lv_iconst (v := (1 : Int32)) hx hb dX6_commonDivisor_3 (by decide) ?_
      refine lv_icmp_le (tgt := 27) hx hb dX6_commonDivisor_4 (by decide) (fun c_1 => ?_) (fun c_1 => ?_)
      · have hf := zx_pos c_1 hf
        refine lv_iconst (v := (1 : Int32)) hx hb dX6_commonDivisor_27 (by decide) ?_
        exact zx_iret hx hb hr hlocks rfl hG hf dX6_commonDivisor_28
      · have hf := zx_neg c_1 hf
        refine lv_iload_n hx hb dX6_commonDivisor_7 rfl (lv_at hl 0 rfl) ?_
        refine lv_iload_n hx hb dX6_commonDivisor_8 rfl (lv_at hl 2 rfl) ?_
        obtain ⟨g_2, hf⟩ := zx_gd hf
        refine lv_irem hx hb dX6_commonDivisor_9 g_2 ?_
        refine lv_if_ne (tgt := 21) hx hb dX6_commonDivisor_10 (by decide) (fun c_3 => ?_) (fun c_3 => ?_)
        · have hf := zx_neg c_3 hf
          refine lv_iinc (v := (v2 + (-1 : Int32))) (lv' := [(2, .int (v2 + (-1 : Int32))), (0, .int v0), (1, .int v1)]) hx hb dX6_commonDivisor_21 hl (k := 2) rfl (congrArg (HAdd.hAdd v2) (by decide)) (by decide) rfl (fun ls hl => ?_)
          refine lv_goto (tgt := 2) hx hb dX6_commonDivisor_24 (by decide) ?_
          exact ih2 v0 v1 (v2 + (-1 : Int32)) I _ _ ls hf hG (lv_sub hl [1, 2, 0] rfl)
        · have hf := zx_pos c_3 hf
          refine lv_iload_n hx hb dX6_commonDivisor_13 rfl (lv_at hl 1 rfl) ?_
          refine lv_iload_n hx hb dX6_commonDivisor_14 rfl (lv_at hl 2 rfl) ?_
          refine lv_irem hx hb dX6_commonDivisor_15 g_2 ?_
          refine lv_if_ne (tgt := 21) hx hb dX6_commonDivisor_16 (by decide) (fun c_5 => ?_) (fun c_5 => ?_)
          · have hf := zx_neg c_5 hf
            refine lv_iinc (v := (v2 + (-1 : Int32))) (lv' := [(2, .int (v2 + (-1 : Int32))), (0, .int v0), (1, .int v1)]) hx hb dX6_commonDivisor_21 hl (k := 2) rfl (congrArg (HAdd.hAdd v2) (by decide)) (by decide) rfl (fun ls hl => ?_)
            refine lv_goto (tgt := 2) hx hb dX6_commonDivisor_24 (by decide) ?_
            exact ih2 v0 v1 (v2 + (-1 : Int32)) I _ _ ls hf hG (lv_sub hl [1, 2, 0] rfl)
          · have hf := zx_pos c_5 hf
            refine lv_iload_n hx hb dX6_commonDivisor_19 rfl (lv_at hl 2 rfl) ?_
            exact zx_iret hx hb hr hlocks rfl hG hf dX6_commonDivisor_20
  exact loop2 _ x0 x1 x1 I _ _ ls hf hG (lv_sub hl [1, 2, 0] rfl)

set_option maxHeartbeats 4000000 in
set_option maxRecDepth 100000 in
theorem mX6_odds (l : Launch) (D : va_G) (ad : Nat → Nat) (cA : Nat → ClassId) (x1 : Int32) (x2 : Int32) (I : zxI) (r : Int64) (J : zxI) (hf : fX6_odds x1 x2 I = some (r, J)) (sz : Nat) : Met l yX6_odds wsX6_odds { frames := 6, cells := 0, slots := 0, locals := 134 } (va_Pc [.ref (ad 0), .int x1, .int x2] (zxPre D shX ad cA I sz)) (va_Ql (fun (r2 : Int64) (I2 : zxI) => r2 = r ∧ I2 = J) (zxPost D shX ad cA sz) (zxA shX ad sz)) 0 0 (zxA shX ad sz) := by
  refine zx_start (by decide) rfl (Nat.le_of_ble_eq_true rfl) ?_
  intro p e s m args below meth c ls hx hb hr hts hown hlocks hml hG hl
  have hl : lv_has ls 6 [(0, .ref (ad 0)), (1, .int x1), (2, .int x2)] := hl
  have hiX2 : ∀ w ∈ wsX20, w ∈ wsX6_odds := fun w h => List.mem_cons_of_mem _ (List.mem_append_left _ (List.mem_append_right _ h))
  have hiX6 : ∀ w ∈ wsX60, w ∈ wsX6_odds := fun w h => List.mem_cons_of_mem _ (List.mem_append_left _ (List.mem_append_left _ (List.mem_append_right _ h)))
  have L1 := hts (Cond.constantLong RX6 218 (-9223372036854775808)) (List.mem_of_getElem? (i := 1) rfl)
  have L2 := hts (Cond.fieldLink RX6 20 "GalleryBirds" "pit" "LGalleryBirds$Pit;") (List.mem_of_getElem? (i := 2) rfl)
  have L3 := hts (Cond.fieldLink RX6 97 "GalleryBirds$Pit" "galleries" "I") (List.mem_of_getElem? (i := 3) rfl)
  have L4 := hts (Cond.fieldLink RX6 196 "GalleryBirds$Pit" "words" "I") (List.mem_of_getElem? (i := 4) rfl)
  unfold fX6_odds at hf
  refine lv_aload_n hx hb dX6_odds_0 rfl (lv_at hl 0 rfl) ?_
  refine lv_iload_n hx hb dX6_odds_1 rfl (lv_at hl 1 rfl) ?_
  obtain ⟨r_1, I_1, h_1, hf⟩ := zx_b hf
  refine zx_calli (va_runV (As := [.int x1]) (rest := []) ⟨hx, hb, hml, hown, hts⟩ (mX6_isGallery l D ad cA x1 I r_1 I_1 h_1 _) (cwV 1 hts gX6_odds_X6_isGallery rfl rfl rfl hd_X6_isGallery ⟨Nat.le_of_ble_eq_true rfl, Nat.le_of_ble_eq_true rfl⟩) (zx_preV hG shX_0 vc_6) rfl rfl hl.1 rfl (lv_room (Nat.le_of_ble_eq_true rfl)) dX6_odds_2 ⟨Nat.le_refl _, Nat.le_refl _⟩) hG (fun H locs hG => ?_)
  refine lv_if_eq (tgt := 17) hx hb dX6_odds_5 (by decide) (fun c_2 => ?_) (fun c_2 => ?_)
  · have hf := zx_pos c_2 hf
    refine lv_ldc2 (v := (-9223372036854775808 : Int64)) hx hb hown L1 dX6_odds_17 ?_
    exact zx_lret hx hb hr hlocks hG hf dX6_odds_20
  · have hf := zx_neg c_2 hf
    refine lv_iload_n hx hb dX6_odds_8 rfl (lv_at hl 2 rfl) ?_
    refine lv_if_lt (tgt := 17) hx hb dX6_odds_9 (by decide) (fun c_3 => ?_) (fun c_3 => ?_)
    · have hf := zx_pos c_3 hf
      refine lv_ldc2 (v := (-9223372036854775808 : Int64)) hx hb hown L1 dX6_odds_17 ?_
      exact zx_lret hx hb hr hlocks hG hf dX6_odds_20
    · have hf := zx_neg c_3 hf
      refine lv_iload_n hx hb dX6_odds_12 rfl (lv_at hl 2 rfl) ?_
      refine lv_iconst (v := (1 : Int32)) hx hb dX6_odds_13 (by decide) ?_
      refine lv_icmp_le (tgt := 21) hx hb dX6_odds_14 (by decide) (fun c_4 => ?_) (fun c_4 => ?_)
      · have hf := zx_pos c_4 hf
        refine lv_iconst (v := (0 : Int32)) hx hb dX6_odds_21 (by decide) ?_
        refine lv_istore_n (lv' := [(3, .int (0 : Int32)), (0, .ref (ad 0)), (1, .int x1), (2, .int x2)]) hx hb dX6_odds_22 rfl hl (by decide) rfl (fun ls hl => ?_)
        refine lv_iconst (v := (0 : Int32)) hx hb dX6_odds_23 (by decide) ?_
        refine lv_istore (lv' := [(4, .int (0 : Int32)), (3, .int (0 : Int32)), (0, .ref (ad 0)), (1, .int x1), (2, .int x2)]) hx hb dX6_odds_24 hl (by decide) rfl (fun ls hl => ?_)
        have loop26 : ∀ (n : Nat) (v1 : Int32) (v2 : Int32) (v3 : Int32) (v4 : Int32) (I : zxI) (H : Heap) (locs : List Loc) (ls : Array Slot), fX6_odds_L26 n v1 v2 v3 v4 I = some (r, J) → zxAt D shX ad cA I s sz H locs → lv_has ls 6 [(0, .ref (ad 0)), (1, .int v1), (2, .int v2), (3, .int v3), (4, .int v4)] → W p l e (headSpec wsX6_odds { frames := 6, cells := 0, slots := 0, locals := 134 }).room s m args below meth c H locs 0 0 (MQ below (va_Ql (fun (r2 : Int64) (I2 : zxI) => r2 = r ∧ I2 = J) (zxPost D shX ad cA sz) (zxA shX ad sz)) args s 0 0 (zxA shX ad sz)) (F0 m 26 ls []) := by
          intro n
          induction n with
          | zero =>
            intro v1 v2 v3 v4 I H locs ls hf hG hl
            rw [fX6_odds_L26] at hf
            cases hf
          | succ n26 ih26 =>
            intro v1 v2 v3 v4 I H locs ls hf hG hl
            rw [fX6_odds_L26] at hf
            refine lv_iload hx hb dX6_odds_26 (lv_at hl 4 rfl) ?_
            refine lv_aload_n hx hb dX6_odds_28 rfl (lv_at hl 0 rfl) ?_
            refine zx_getR (d := 10) hx hb hts hiX6 hown hG shX_0 vc_6 1 (by decide) rfl L2 dX6_odds_29 ?_
            refine zx_getI hx hb hts hiX2 hown hG shX_10 vc_2 0 (by decide) rfl L3 dX6_odds_32 ?_
            refine lv_icmp_ge (tgt := 83) hx hb dX6_odds_35 (by decide) (fun c_5 => ?_) (fun c_5 => ?_)
            · have hf := zx_pos c_5 hf
              refine lv_aload_n hx hb dX6_odds_83 rfl (lv_at hl 0 rfl) ?_
              refine zx_getR (d := 10) hx hb hts hiX6 hown hG shX_0 vc_6 1 (by decide) rfl L2 dX6_odds_84 ?_
              refine zx_getI hx hb hts hiX2 hown hG shX_10 vc_2 0 (by decide) rfl L3 dX6_odds_87 ?_
              refine lv_aload_n hx hb dX6_odds_90 rfl (lv_at hl 0 rfl) ?_
              refine zx_getR (d := 10) hx hb hts hiX6 hown hG shX_0 vc_6 1 (by decide) rfl L2 dX6_odds_91 ?_
              refine zx_getI hx hb hts hiX2 hown hG shX_10 vc_2 1 (by decide) rfl L4 dX6_odds_94 ?_
              refine lv_imul hx hb dX6_odds_97 ?_
              refine lv_istore (lv' := [(4, .int ((I 10 0) * (I 10 1))), (0, .ref (ad 0)), (1, .int v1), (2, .int v2), (3, .int v3)]) hx hb dX6_odds_98 hl (by decide) rfl (fun ls hl => ?_)
              refine lv_iload_n hx hb dX6_odds_100 rfl (lv_at hl 4 rfl) ?_
              refine lv_iload hx hb dX6_odds_101 (lv_at hl 0 rfl) ?_
              obtain ⟨r_6, I_6, h_6, hf⟩ := zx_b hf
              refine zx_calli (va_runS (As := [.int v3, .int ((I 10 0) * (I 10 1))]) (rest := []) ⟨hx, hb, hml, hown, hts⟩ (mX6_commonDivisor l D ad cA v3 ((I 10 0) * (I 10 1)) I r_6 I_6 h_6 _) (va_cwS 2 hts gX6_odds_X6_commonDivisor rfl rfl rfl hd_X6_commonDivisor ⟨Nat.le_of_ble_eq_true rfl, Nat.le_of_ble_eq_true rfl⟩) (zx_preS hG) rfl rfl hl.1 rfl (lv_room (Nat.le_of_ble_eq_true rfl)) dX6_odds_103 ⟨Nat.le_refl _, Nat.le_refl _⟩) hG (fun H locs hG => ?_)
              refine lv_istore (lv' := [(5, .int r_6), (4, .int ((I 10 0) * (I 10 1))), (0, .ref (ad 0)), (1, .int v1), (2, .int v2), (3, .int v3)]) hx hb dX6_odds_106 hl (by decide) rfl (fun ls hl => ?_)
              refine lv_iload_n hx hb dX6_odds_108 rfl (lv_at hl 4 rfl) ?_
              refine lv_if_ne (tgt := 120) hx hb dX6_odds_109 (by decide) (fun c_7 => ?_) (fun c_7 => ?_)
              · have hf := zx_neg c_7 hf
                refine lv_iload hx hb dX6_odds_120 (lv_at hl 1 rfl) ?_
                refine lv_iload hx hb dX6_odds_122 (lv_at hl 0 rfl) ?_
                obtain ⟨g_8, hf⟩ := zx_gd hf
                refine lv_idiv hx hb dX6_odds_124 g_8 ?_
                refine lv_i2l (v := ((((I 10 0) * (I 10 1)) / r_6).toInt64)) hx hb dX6_odds_125 rfl ?_
                exact zx_lret hx hb hr hlocks hG hf dX6_odds_126
              · have hf := zx_pos c_7 hf
                refine lv_iload_n hx hb dX6_odds_112 rfl (lv_at hl 5 rfl) ?_
                refine lv_iload hx hb dX6_odds_113 (lv_at hl 0 rfl) ?_
                obtain ⟨g_9, hf⟩ := zx_gd hf
                refine lv_idiv hx hb dX6_odds_115 g_9 ?_
                refine lv_i2l (v := ((v3 / r_6).toInt64)) hx hb dX6_odds_116 rfl ?_
                refine lv_goto (tgt := 126) hx hb dX6_odds_117 (by decide) ?_
                exact zx_lret hx hb hr hlocks hG hf dX6_odds_126
            · have hf := zx_neg c_5 hf
              refine lv_iconst (v := (0 : Int32)) hx hb dX6_odds_38 (by decide) ?_
              refine lv_istore (lv' := [(5, .int (0 : Int32)), (0, .ref (ad 0)), (1, .int v1), (2, .int v2), (3, .int v3), (4, .int v4)]) hx hb dX6_odds_39 hl (by decide) rfl (fun ls hl => ?_)
              have loop41 : ∀ (n : Nat) (v1 : Int32) (v2 : Int32) (v3 : Int32) (v4 : Int32) (v5 : Int32) (I : zxI) (H : Heap) (locs : List Loc) (ls : Array Slot), fX6_odds_L41 (fun a0 a1 a2 a3 I => (fX6_odds_L26 n26 a0 a1 a2 a3 I)) n v1 v2 v3 v4 v5 I = some (r, J) → zxAt D shX ad cA I s sz H locs → lv_has ls 6 [(0, .ref (ad 0)), (1, .int v1), (2, .int v2), (3, .int v3), (4, .int v4), (5, .int v5)] → W p l e (headSpec wsX6_odds { frames := 6, cells := 0, slots := 0, locals := 134 }).room s m args below meth c H locs 0 0 (MQ below (va_Ql (fun (r2 : Int64) (I2 : zxI) => r2 = r ∧ I2 = J) (zxPost D shX ad cA sz) (zxA shX ad sz)) args s 0 0 (zxA shX ad sz)) (F0 m 41 ls []) := by
                intro n
                induction n with
                | zero =>
                  intro v1 v2 v3 v4 v5 I H locs ls hf hG hl
                  rw [fX6_odds_L41] at hf
                  cases hf
                | succ n41 ih41 =>
                  intro v1 v2 v3 v4 v5 I H locs ls hf hG hl
                  rw [fX6_odds_L41] at hf
                  refine lv_iload hx hb dX6_odds_41 (lv_at hl 5 rfl) ?_
                  refine lv_aload_n hx hb dX6_odds_43 rfl (lv_at hl 0 rfl) ?_
                  refine zx_getR (d := 10) hx hb hts hiX6 hown hG shX_0 vc_6 1 (by decide) rfl L2 dX6_odds_44 ?_
                  refine zx_getI hx hb hts hiX2 hown hG shX_10 vc_2 1 (by decide) rfl L4 dX6_odds_47 ?_
                  refine lv_icmp_ge (tgt := 77) hx hb dX6_odds_50 (by decide) (fun c_10 => ?_) (fun c_10 => ?_)
                  · have hf := zx_pos c_10 hf
                    refine lv_iinc (v := (v4 + (1 : Int32))) (lv' := [(4, .int (v4 + (1 : Int32))), (0, .ref (ad 0)), (1, .int v1), (2, .int v2), (3, .int v3), (5, .int v5)]) hx hb dX6_odds_77 hl (k := 4) rfl (congrArg (HAdd.hAdd v4) (by decide)) (by decide) rfl (fun ls hl => ?_)
                    refine lv_goto (tgt := 26) hx hb dX6_odds_80 (by decide) ?_
                    exact ih26 v1 v2 v3 (v4 + (1 : Int32)) I _ _ ls hf hG (lv_sub hl [1, 2, 3, 4, 0] rfl)
                  · have hf := zx_neg c_10 hf
                    refine lv_aload_n hx hb dX6_odds_53 rfl (lv_at hl 0 rfl) ?_
                    refine lv_iload hx hb dX6_odds_54 (lv_at hl 4 rfl) ?_
                    refine lv_iload hx hb dX6_odds_56 (lv_at hl 5 rfl) ?_
                    obtain ⟨I_11, h_11, hf⟩ := zx_v hf
                    refine zx_callr (d := zaO 1) (va_runV (As := [.int v4, .int v5]) (rest := []) ⟨hx, hb, hml, hown, hts⟩ (mX6_airBehind l D ad cA v4 v5 I I_11 h_11 _) (cwV 2 hts gX6_odds_X6_airBehind rfl rfl rfl hd_X6_airBehind ⟨Nat.le_of_ble_eq_true rfl, Nat.le_of_ble_eq_true rfl⟩) (zx_preV hG shX_0 vc_6) rfl rfl hl.1 rfl (lv_room (Nat.le_of_ble_eq_true rfl)) dX6_odds_58 ⟨Nat.le_refl _, Nat.le_refl _⟩) hG (fun H locs hG => ?_)
                    refine lv_iload_n hx hb dX6_odds_61 rfl (lv_at hl 1 rfl) ?_
                    obtain ⟨r_12, I_12, h_12, hf⟩ := zx_b hf
                    refine zx_calli (va_runV (As := [.int v1]) (rest := []) ⟨hx, hb, hml, hown, hts⟩ (mX0_isDown l D ad cA 1 (by decide : 1 < 8) v1 I_11 r_12 I_12 h_12 _) (cwV 1 hts gX6_odds_X0_isDown rfl rfl rfl hd_X0_isDown ⟨Nat.le_of_ble_eq_true rfl, Nat.le_of_ble_eq_true rfl⟩) (zx_preV hG (shX_aO (by decide : 1 < 8)) vc_0) rfl rfl hl.1 rfl (lv_room (Nat.le_of_ble_eq_true rfl)) dX6_odds_62 ⟨Nat.le_refl _, Nat.le_refl _⟩) hG (fun H locs hG => ?_)
                    refine lv_if_eq (tgt := 71) hx hb dX6_odds_65 (by decide) (fun c_13 => ?_) (fun c_13 => ?_)
                    · have hf := zx_pos c_13 hf
                      refine lv_iinc (v := (v5 + (1 : Int32))) (lv' := [(5, .int (v5 + (1 : Int32))), (0, .ref (ad 0)), (1, .int v1), (2, .int v2), (3, .int v3), (4, .int v4)]) hx hb dX6_odds_71 hl (k := 5) rfl (congrArg (HAdd.hAdd v5) (by decide)) (by decide) rfl (fun ls hl => ?_)
                      refine lv_goto (tgt := 41) hx hb dX6_odds_74 (by decide) ?_
                      exact ih41 v1 v2 v3 v4 (v5 + (1 : Int32)) I_12 _ _ ls hf hG (lv_sub hl [1, 2, 3, 4, 5, 0] rfl)
                    · have hf := zx_neg c_13 hf
                      refine lv_iinc (v := (v3 + (1 : Int32))) (lv' := [(3, .int (v3 + (1 : Int32))), (0, .ref (ad 0)), (1, .int v1), (2, .int v2), (4, .int v4), (5, .int v5)]) hx hb dX6_odds_68 hl (k := 3) rfl (congrArg (HAdd.hAdd v3) (by decide)) (by decide) rfl (fun ls hl => ?_)
                      refine lv_iinc (v := (v5 + (1 : Int32))) (lv' := [(5, .int (v5 + (1 : Int32))), (3, .int (v3 + (1 : Int32))), (0, .ref (ad 0)), (1, .int v1), (2, .int v2), (4, .int v4)]) hx hb dX6_odds_71 hl (k := 5) rfl (congrArg (HAdd.hAdd v5) (by decide)) (by decide) rfl (fun ls hl => ?_)
                      refine lv_goto (tgt := 41) hx hb dX6_odds_74 (by decide) ?_
                      exact ih41 v1 v2 (v3 + (1 : Int32)) v4 (v5 + (1 : Int32)) I_12 _ _ ls hf hG (lv_sub hl [2, 3, 4, 1, 5, 0] rfl)
              exact loop41 _ v1 v2 v3 v4 (0 : Int32) I _ _ ls hf hG (lv_sub hl [1, 2, 3, 4, 5, 0] rfl)
        exact loop26 _ x1 x2 (0 : Int32) (0 : Int32) I_1 _ _ ls hf hG (lv_sub hl [2, 3, 4, 1, 0] rfl)
      · have hf := zx_neg c_4 hf
        refine lv_ldc2 (v := (-9223372036854775808 : Int64)) hx hb hown L1 dX6_odds_17 ?_
        exact zx_lret hx hb hr hlocks hG hf dX6_odds_20

set_option maxHeartbeats 4000000 in
set_option maxRecDepth 100000 in
theorem mX6_sheet (l : Launch) (D : va_G) (ad : Nat → Nat) (cA : Nat → ClassId) (x1 : Int32) (x2 : Int32) (x3 : Int32) (I : zxI) (r : Int32) (J : zxI) (hf : fX6_sheet x1 x2 x3 I = some (r, J)) (sz : Nat) : Met l yX6_sheet wsX6_sheet { frames := 1, cells := 0, slots := 0, locals := 23 } (va_Pc [.ref (ad 0), .int x1, .int x2, .int x3] (zxPre D shX ad cA I sz)) (va_Qi (fun (r2 : Int32) (I2 : zxI) => r2 = r ∧ I2 = J) (zxPost D shX ad cA sz) (zxA shX ad sz)) 0 0 (zxA shX ad sz) := by
  refine zx_start (by decide) rfl (Nat.le_of_ble_eq_true rfl) ?_
  intro p e s m args below meth c ls hx hb hr hts hown hlocks hml hG hl
  have hl : lv_has ls 4 [(0, .ref (ad 0)), (1, .int x1), (2, .int x2), (3, .int x3)] := hl
  have hiX6 : ∀ w ∈ wsX60, w ∈ wsX6_sheet := fun w h => List.mem_cons_of_mem _ (List.mem_append_left _ (List.mem_append_right _ h))
  have L1 := hts (Cond.fieldLink RX6 67 "GalleryBirds" "lastFault" "I") (List.mem_of_getElem? (i := 1) rfl)
  have L2 := hts (Cond.fieldLink RX6 13 "GalleryBirds" "sheets" "[LGalleryBirds$Sheet;") (List.mem_of_getElem? (i := 2) rfl)
  unfold fX6_sheet at hf
  refine lv_aload_n hx hb dX6_sheet_0 rfl (lv_at hl 0 rfl) ?_
  refine lv_iconst (v := (0 : Int32)) hx hb dX6_sheet_1 (by decide) ?_
  refine zx_putI hx hb hts hiX6 tyX6 tyX6_ok nmX6 hown hG shX_0 vc_6 10 (by decide) rfl L1 rfl (ty := .int) (tyX6_ok 10 (by decide)) rfl rfl dX6_sheet_2 (fun H locs hG => ?_)
  refine lv_iload_n hx hb dX6_sheet_5 rfl (lv_at hl 1 rfl) ?_
  obtain ⟨r_1, I_1, h_1, hf⟩ := zx_b hf
  refine zx_calli (va_runS (As := [.int x1]) (rest := []) ⟨hx, hb, hml, hown, hts⟩ (mX6_isSheet l D ad cA x1 (zxU I 0 10 (0 : Int32)) r_1 I_1 h_1 _) (va_cwS 1 hts gX6_sheet_X6_isSheet rfl rfl rfl hd_X6_isSheet ⟨Nat.le_of_ble_eq_true rfl, Nat.le_of_ble_eq_true rfl⟩) (zx_preS hG) rfl rfl hl.1 rfl (lv_room (Nat.le_of_ble_eq_true rfl)) dX6_sheet_6 ⟨Nat.le_refl _, Nat.le_refl _⟩) hG (fun H locs hG => ?_)
  refine lv_if_ne (tgt := 14) hx hb dX6_sheet_9 (by decide) (fun c_2 => ?_) (fun c_2 => ?_)
  · have hf := zx_neg c_2 hf
    refine lv_iload_n hx hb dX6_sheet_14 rfl (lv_at hl 2 rfl) ?_
    obtain ⟨r_3, I_3, h_3, hf⟩ := zx_b hf
    refine zx_calli (va_runS (As := [.int x2]) (rest := []) ⟨hx, hb, hml, hown, hts⟩ (mX6_isLane l D ad cA x2 I_1 r_3 I_3 h_3 _) (va_cwS 1 hts gX6_sheet_X6_isLane rfl rfl rfl hd_X6_isLane ⟨Nat.le_of_ble_eq_true rfl, Nat.le_of_ble_eq_true rfl⟩) (zx_preS hG) rfl rfl hl.1 rfl (lv_room (Nat.le_of_ble_eq_true rfl)) dX6_sheet_15 ⟨Nat.le_refl _, Nat.le_refl _⟩) hG (fun H locs hG => ?_)
    refine lv_if_eq (tgt := 27) hx hb dX6_sheet_18 (by decide) (fun c_4 => ?_) (fun c_4 => ?_)
    · have hf := zx_pos c_4 hf
      refine lv_bipush (v := (-2 : Int32)) hx hb dX6_sheet_27 (by decide) ?_
      exact zx_iret hx hb hr hlocks rfl hG hf dX6_sheet_29
    · have hf := zx_neg c_4 hf
      refine lv_iload_n hx hb dX6_sheet_21 rfl (lv_at hl 3 rfl) ?_
      refine lv_bipush (v := (60 : Int32)) hx hb dX6_sheet_22 (by decide) ?_
      refine lv_icmp_le (tgt := 30) hx hb dX6_sheet_24 (by decide) (fun c_5 => ?_) (fun c_5 => ?_)
      · have hf := zx_pos c_5 hf
        refine lv_iload_n hx hb dX6_sheet_30 rfl (lv_at hl 3 rfl) ?_
        refine lv_if_ge (tgt := 40) hx hb dX6_sheet_31 (by decide) (fun c_6 => ?_) (fun c_6 => ?_)
        · have hf := zx_pos c_6 hf
          refine lv_aload_n hx hb dX6_sheet_40 rfl (lv_at hl 0 rfl) ?_
          refine zx_getR (d := 1) hx hb hts hiX6 hown hG shX_0 vc_6 0 (by decide) rfl L2 dX6_sheet_41 ?_
          refine lv_iload_n hx hb dX6_sheet_44 rfl (lv_at hl 1 rfl) ?_
          obtain ⟨g_7, hf⟩ := zx_in hf
          refine zx_aldR (d := (zsO (x1.toNatClampNeg))) (t := 1) hx hb hG shX_1 rfl g_7 (shX_rs (zx_lt g_7)) dX6_sheet_45 ?_
          refine lv_iload_n hx hb dX6_sheet_46 rfl (lv_at hl 2 rfl) ?_
          refine lv_iload_n hx hb dX6_sheet_47 rfl (lv_at hl 3 rfl) ?_
          obtain ⟨I_8, h_8, hf⟩ := zx_v hf
          refine zx_callv (va_runV (As := [.int x2, .int x3]) (rest := []) ⟨hx, hb, hml, hown, hts⟩ (mX5_begin l D ad cA (x1.toNatClampNeg) (zx_lt g_7) x2 x3 I_3 I_8 h_8 _) (cwV 2 hts gX6_sheet_X5_begin rfl rfl rfl hd_X5_begin ⟨Nat.le_of_ble_eq_true rfl, Nat.le_of_ble_eq_true rfl⟩) (zx_preV hG (shX_sO (zx_lt g_7)) vc_5) rfl rfl hl.1 rfl (lv_room (Nat.le_of_ble_eq_true rfl)) dX6_sheet_48 ⟨Nat.le_refl _, Nat.le_refl _⟩) hG (fun H locs hG => ?_)
          refine lv_iconst (v := (1 : Int32)) hx hb dX6_sheet_51 (by decide) ?_
          exact zx_iret hx hb hr hlocks rfl hG hf dX6_sheet_52
        · have hf := zx_neg c_6 hf
          refine lv_aload_n hx hb dX6_sheet_34 rfl (lv_at hl 0 rfl) ?_
          refine lv_iconst (v := (4 : Int32)) hx hb dX6_sheet_35 (by decide) ?_
          obtain ⟨r_9, I_9, h_9, hf⟩ := zx_b hf
          refine zx_calli (va_runV (As := [.int (4 : Int32)]) (rest := []) ⟨hx, hb, hml, hown, hts⟩ (mX6_faulted l D ad cA (4 : Int32) I_3 r_9 I_9 h_9 _) (cwV 1 hts gX6_sheet_X6_faulted rfl rfl rfl hd_X6_faulted ⟨Nat.le_of_ble_eq_true rfl, Nat.le_of_ble_eq_true rfl⟩) (zx_preV hG shX_0 vc_6) rfl rfl hl.1 rfl (lv_room (Nat.le_of_ble_eq_true rfl)) dX6_sheet_36 ⟨Nat.le_refl _, Nat.le_refl _⟩) hG (fun H locs hG => ?_)
          exact zx_iret hx hb hr hlocks rfl hG hf dX6_sheet_39
      · have hf := zx_neg c_5 hf
        refine lv_bipush (v := (-2 : Int32)) hx hb dX6_sheet_27 (by decide) ?_
        exact zx_iret hx hb hr hlocks rfl hG hf dX6_sheet_29
  · have hf := zx_pos c_2 hf
    refine lv_iconst (v := (-1 : Int32)) hx hb dX6_sheet_12 (by decide) ?_
    exact zx_iret hx hb hr hlocks rfl hG hf dX6_sheet_13

set_option maxHeartbeats 4000000 in
set_option maxRecDepth 100000 in
theorem mX6_lose (l : Launch) (D : va_G) (ad : Nat → Nat) (cA : Nat → ClassId) (x1 : Int32) (I : zxI) (r : Int32) (J : zxI) (hf : fX6_lose x1 I = some (r, J)) (sz : Nat) : Met l yX6_lose wsX6_lose { frames := 1, cells := 0, slots := 0, locals := 20 } (va_Pc [.ref (ad 0), .int x1] (zxPre D shX ad cA I sz)) (va_Qi (fun (r2 : Int32) (I2 : zxI) => r2 = r ∧ I2 = J) (zxPost D shX ad cA sz) (zxA shX ad sz)) 0 0 (zxA shX ad sz) := by
  refine zx_start (by decide) rfl (Nat.le_of_ble_eq_true rfl) ?_
  intro p e s m args below meth c ls hx hb hr hts hown hlocks hml hG hl
  have hl : lv_has ls 3 [(0, .ref (ad 0)), (1, .int x1)] := hl
  have hiX5 : ∀ w ∈ wsX50, w ∈ wsX6_lose := fun w h => List.mem_cons_of_mem _ (List.mem_append_right _ h)
  have hiX6 : ∀ w ∈ wsX60, w ∈ wsX6_lose := fun w h => List.mem_cons_of_mem _ (List.mem_append_left _ (List.mem_append_right _ h))
  have L1 := hts (Cond.fieldLink RX6 13 "GalleryBirds" "sheets" "[LGalleryBirds$Sheet;") (List.mem_of_getElem? (i := 1) rfl)
  have L2 := hts (Cond.fieldLink RX6 227 "GalleryBirds$Sheet" "has" "Z") (List.mem_of_getElem? (i := 2) rfl)
  unfold fX6_lose at hf
  refine lv_iload_n hx hb dX6_lose_0 rfl (lv_at hl 1 rfl) ?_
  obtain ⟨r_1, I_1, h_1, hf⟩ := zx_b hf
  refine zx_calli (va_runS (As := [.int x1]) (rest := []) ⟨hx, hb, hml, hown, hts⟩ (mX6_isSheet l D ad cA x1 I r_1 I_1 h_1 _) (va_cwS 1 hts gX6_lose_X6_isSheet rfl rfl rfl hd_X6_isSheet ⟨Nat.le_of_ble_eq_true rfl, Nat.le_of_ble_eq_true rfl⟩) (zx_preS hG) rfl rfl hl.1 rfl (lv_room (Nat.le_of_ble_eq_true rfl)) dX6_lose_1 ⟨Nat.le_refl _, Nat.le_refl _⟩) hG (fun H locs hG => ?_)
  refine lv_if_ne (tgt := 9) hx hb dX6_lose_4 (by decide) (fun c_2 => ?_) (fun c_2 => ?_)
  · have hf := zx_neg c_2 hf
    refine lv_aload_n hx hb dX6_lose_9 rfl (lv_at hl 0 rfl) ?_
    refine zx_getR (d := 1) hx hb hts hiX6 hown hG shX_0 vc_6 0 (by decide) rfl L1 dX6_lose_10 ?_
    refine lv_iload_n hx hb dX6_lose_13 rfl (lv_at hl 1 rfl) ?_
    obtain ⟨g_3, hf⟩ := zx_in hf
    refine zx_aldR (d := (zsO (x1.toNatClampNeg))) (t := 1) hx hb hG shX_1 rfl g_3 (shX_rs (zx_lt g_3)) dX6_lose_14 ?_
    refine zx_getI hx hb hts hiX5 hown hG (shX_sO (zx_lt g_3)) vc_5 0 (by decide) rfl L2 dX6_lose_15 ?_
    refine lv_istore_n (lv' := [(2, .int (I_1 (zsO (x1.toNatClampNeg)) 0)), (0, .ref (ad 0)), (1, .int x1)]) hx hb dX6_lose_18 rfl hl (by decide) rfl (fun ls hl => ?_)
    refine lv_aload_n hx hb dX6_lose_19 rfl (lv_at hl 1 rfl) ?_
    refine zx_getR (d := 1) hx hb hts hiX6 hown hG shX_0 vc_6 0 (by decide) rfl L1 dX6_lose_20 ?_
    refine lv_iload_n hx hb dX6_lose_23 rfl (lv_at hl 2 rfl) ?_
    refine zx_aldR (d := (zsO (x1.toNatClampNeg))) (t := 1) hx hb hG shX_1 rfl g_3 (shX_rs (zx_lt g_3)) dX6_lose_24 ?_
    refine lv_iconst (v := (0 : Int32)) hx hb dX6_lose_25 (by decide) ?_
    refine zx_putI hx hb hts hiX5 tyX5 tyX5_ok nmX5 hown hG (shX_sO (zx_lt g_3)) vc_5 0 (by decide) rfl L2 rfl (ty := .boolean) (tyX5_ok 0 (by decide)) rfl rfl dX6_lose_26 (fun H locs hG => ?_)
    refine lv_iload_n hx hb dX6_lose_29 rfl (lv_at hl 0 rfl) ?_
    refine lv_if_eq (tgt := 37) hx hb dX6_lose_30 (by decide) (fun c_5 => ?_) (fun c_5 => ?_)
    · have hf := zx_pos c_5 hf
      refine lv_iconst (v := (0 : Int32)) hx hb dX6_lose_37 (by decide) ?_
      exact zx_iret hx hb hr hlocks rfl hG hf dX6_lose_38
    · have hf := zx_neg c_5 hf
      refine lv_iconst (v := (1 : Int32)) hx hb dX6_lose_33 (by decide) ?_
      refine lv_goto (tgt := 38) hx hb dX6_lose_34 (by decide) ?_
      exact zx_iret hx hb hr hlocks rfl hG hf dX6_lose_38
  · have hf := zx_pos c_2 hf
    refine lv_iconst (v := (-1 : Int32)) hx hb dX6_lose_7 (by decide) ?_
    exact zx_iret hx hb hr hlocks rfl hG hf dX6_lose_8

set_option maxHeartbeats 4000000 in
set_option maxRecDepth 100000 in
theorem mX6_cutToLane (l : Launch) (D : va_G) (ad : Nat → Nat) (cA : Nat → ClassId) (x0 : Int32) (x1 : Int32) (I : zxI) (r : Int32) (J : zxI) (hf : fX6_cutToLane x0 x1 I = some (r, J)) (sz : Nat) : Met l yX6_cutToLane wsX6_cutToLane { frames := 0, cells := 0, slots := 0, locals := 0 } (va_Pc [.int x0, .int x1] (zxPre D shX ad cA I sz)) (va_Qi (fun (r2 : Int32) (I2 : zxI) => r2 = r ∧ I2 = J) (zxPost D shX ad cA sz) (zxA shX ad sz)) 0 0 (zxA shX ad sz) := by
  refine zx_start (by decide) rfl (Nat.le_of_ble_eq_true rfl) ?_
  intro p e s m args below meth c ls hx hb hr hts hown hlocks hml hG hl
  have hl : lv_has ls 2 [(0, .int x0), (1, .int x1)] := hl
  unfold fX6_cutToLane at hf
  refine lv_iload_n hx hb dX6_cutToLane_0 rfl (lv_at hl 1 rfl) ?_
  by_cases c_1 : x1 = (0 : Int32)
  · have hf := zx_pos c_1 hf
    refine lv_lookup (off := 27) (tgt := 28) hx hb dX6_cutToLane_1 (by decide) (by rw [c_1]; decide) (by decide) ?_
    refine lv_iload_n hx hb dX6_cutToLane_28 rfl (lv_at hl 0 rfl) ?_
    refine lv_i2b (v := (x0.toInt8.toInt32)) hx hb dX6_cutToLane_29 rfl ?_
    exact zx_iret hx hb hr hlocks rfl hG hf dX6_cutToLane_30
  have hf := zx_neg c_1 hf
  by_cases c_2 : x1 = (1 : Int32)
  · have hf := zx_pos c_2 hf
    refine lv_lookup (off := 30) (tgt := 31) hx hb dX6_cutToLane_1 (by decide) (by rw [c_2]; decide) (by decide) ?_
    refine lv_iload_n hx hb dX6_cutToLane_31 rfl (lv_at hl 0 rfl) ?_
    refine lv_i2s (v := (x0.toInt16.toInt32)) hx hb dX6_cutToLane_32 rfl ?_
    exact zx_iret hx hb hr hlocks rfl hG hf dX6_cutToLane_33
  have hf := zx_neg c_2 hf
  refine lv_lookup (off := 33) (tgt := 34) hx hb dX6_cutToLane_1 (by decide) (zx_lk1 (zx_neI (by decide) c_1) (zx_lk1 (zx_neI (by decide) c_2) (zx_lk0))) (by decide) ?_
  refine lv_iload_n hx hb dX6_cutToLane_34 rfl (lv_at hl 0 rfl) ?_
  exact zx_iret hx hb hr hlocks rfl hG hf dX6_cutToLane_35
