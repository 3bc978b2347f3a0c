/-! the law's cases (laid by wip/whole/genL.py) -/
set_option maxHeartbeats 4000000 in
set_option maxRecDepth 100000 in
theorem zlc_8 {p : Program} {l : Launch} {e : Env} {s : State} {m : MethodId} {below : List Frame} {meth : Method} {c : Code} {H : Heap} {locs : List Loc} {Q : State → Prop} {ls : Array Slot} {D : va_G} {cA : Nat → ClassId} {ad bd : Nat → Nat} {I J : zxI} {b L : Nat} {xs : Nat → Int32} {v : Int32} (C0 : zlC p s m meth c b L xs) (hG : zl2 D cA shX ad I shM bd J s H locs) (h : zR I J) (hl : lv_has ls 4 [(0, .ref b), (1, .ref (ad 0)), (2, .ref (bd 0)), (3, .int v)]) (h1 : vp_in (v + 1) L) (h2 : vp_in (v + 2) L) (h3 : vp_in (v + 3) L) (h4 : vp_in (v + 4) L) (h5 : vp_in (v + 5) L) (kk : ∀ (H1 : Heap) (locs1 : List Loc) (I1 J1 : zxI), zl2 D cA shX ad I1 shM bd J1 s H1 locs1 → zR I1 J1 → W p l e room_1 s m #[Value.ref b] below meth c H1 locs1 58 825 Q (F0 m 1264 ls [])) : W p l e room_1 s m #[Value.ref b] below meth c H locs 58 825 Q (F0 m 440 ls []) := by
  obtain ⟨hx, hb, hml, hown, hts, hX, hbl⟩ := C0
  have hbA : ¬ (fun q : Nat => s.heap.size ≤ q) b := Nat.not_le.mpr hbl
  obtain ⟨r, I1, J1, eX, eM, hR⟩ := zop_blow h (xs (v + 1).toNatClampNeg)
  refine lv_aload_n hx hb dL_law_440 rfl (lv_at hl 1 rfl) ?_
  refine lv_aload_n hx hb dL_law_441 rfl (lv_at hl 0 rfl) ?_
  refine lv_iload_n hx hb dL_law_442 rfl (lv_at hl 3 rfl) ?_
  refine lv_iconst (v := (1 : Int32)) hx hb dL_law_443 (by decide) ?_
  refine lv_iadd hx hb dL_law_444 ?_
  refine va_sld hx hb hX hbl hbA hG.2.2.2.2 h1 dL_law_445 ?_
  refine zl_calli (va_runV (As := [.int (xs (v + 1).toNatClampNeg)]) (rest := []) ⟨hx, hb, hml, hown, hts⟩ (mX6_blow l D ad cA (xs (v + 1).toNatClampNeg) I r I1 eX _) (cwV 1 hts gL_law_X6_blow rfl rfl rfl hd_X6_blow ⟨Nat.le_of_ble_eq_true rfl, Nat.le_of_ble_eq_true rfl⟩) (zl_preV hG shX_0 vc_6) rfl rfl hl.1 rfl (lv_room (Nat.le_of_ble_eq_true rfl)) dL_law_446 ⟨Nat.le_of_ble_eq_true rfl, Nat.le_of_ble_eq_true rfl⟩) hG (fun H locs hG => ?_)
  refine lv_aload_n hx hb dL_law_449 rfl (lv_at hl 2 rfl) ?_
  refine lv_aload_n hx hb dL_law_450 rfl (lv_at hl 0 rfl) ?_
  refine lv_iload_n hx hb dL_law_451 rfl (lv_at hl 3 rfl) ?_
  refine lv_iconst (v := (1 : Int32)) hx hb dL_law_452 (by decide) ?_
  refine lv_iadd hx hb dL_law_453 ?_
  refine va_sld hx hb hX hbl hbA hG.2.2.2.2 h1 dL_law_454 ?_
  refine zl_calli (va_runV (As := [.int (xs (v + 1).toNatClampNeg)]) (rest := [.int r]) ⟨hx, hb, hml, hown, hts⟩ (mX7_blow l D bd cA (xs (v + 1).toNatClampNeg) J r J1 eM _) (cwV 1 hts gL_law_X7_blow rfl rfl rfl hd_X7_blow ⟨Nat.le_of_ble_eq_true rfl, Nat.le_of_ble_eq_true rfl⟩) (zl_preV (zl2_swap hG) shM_0 vc_7) rfl rfl hl.1 rfl (lv_room (Nat.le_of_ble_eq_true rfl)) dL_law_455 ⟨Nat.le_of_ble_eq_true rfl, Nat.le_of_ble_eq_true rfl⟩) (zl2_swap hG) (fun H locs hG => ?_)
  refine lv_icmp_eq (tgt := 1264) hx hb dL_law_458 (by decide) (fun _ => ?_) (fun z => absurd rfl z)
  exact kk _ _ _ _ (zl2_swap hG) hR
set_option maxHeartbeats 4000000 in
set_option maxRecDepth 100000 in
theorem zlc_9 {p : Program} {l : Launch} {e : Env} {s : State} {m : MethodId} {below : List Frame} {meth : Method} {c : Code} {H : Heap} {locs : List Loc} {Q : State → Prop} {ls : Array Slot} {D : va_G} {cA : Nat → ClassId} {ad bd : Nat → Nat} {I J : zxI} {b L : Nat} {xs : Nat → Int32} {v : Int32} (C0 : zlC p s m meth c b L xs) (hG : zl2 D cA shX ad I shM bd J s H locs) (h : zR I J) (hl : lv_has ls 4 [(0, .ref b), (1, .ref (ad 0)), (2, .ref (bd 0)), (3, .int v)]) (h1 : vp_in (v + 1) L) (h2 : vp_in (v + 2) L) (h3 : vp_in (v + 3) L) (h4 : vp_in (v + 4) L) (h5 : vp_in (v + 5) L) (kk : ∀ (H1 : Heap) (locs1 : List Loc) (I1 J1 : zxI), zl2 D cA shX ad I1 shM bd J1 s H1 locs1 → zR I1 J1 → W p l e room_1 s m #[Value.ref b] below meth c H1 locs1 58 825 Q (F0 m 1264 ls [])) : W p l e room_1 s m #[Value.ref b] below meth c H locs 58 825 Q (F0 m 463 ls []) := by
  obtain ⟨hx, hb, hml, hown, hts, hX, hbl⟩ := C0
  have hbA : ¬ (fun q : Nat => s.heap.size ≤ q) b := Nat.not_le.mpr hbl
  obtain ⟨r, I1, J1, eX, eM, hR⟩ := zop_shift h (xs (v + 1).toNatClampNeg) (xs (v + 2).toNatClampNeg) (xs (v + 3).toNatClampNeg) (xs (v + 4).toNatClampNeg) (xs (v + 5).toNatClampNeg)
  refine lv_aload_n hx hb dL_law_463 rfl (lv_at hl 1 rfl) ?_
  refine lv_aload_n hx hb dL_law_464 rfl (lv_at hl 0 rfl) ?_
  refine lv_iload_n hx hb dL_law_465 rfl (lv_at hl 3 rfl) ?_
  refine lv_iconst (v := (1 : Int32)) hx hb dL_law_466 (by decide) ?_
  refine lv_iadd hx hb dL_law_467 ?_
  refine va_sld hx hb hX hbl hbA hG.2.2.2.2 h1 dL_law_468 ?_
  refine lv_aload_n hx hb dL_law_469 rfl (lv_at hl 0 rfl) ?_
  refine lv_iload_n hx hb dL_law_470 rfl (lv_at hl 3 rfl) ?_
  refine lv_iconst (v := (2 : Int32)) hx hb dL_law_471 (by decide) ?_
  refine lv_iadd hx hb dL_law_472 ?_
  refine va_sld hx hb hX hbl hbA hG.2.2.2.2 h2 dL_law_473 ?_
  refine lv_aload_n hx hb dL_law_474 rfl (lv_at hl 0 rfl) ?_
  refine lv_iload_n hx hb dL_law_475 rfl (lv_at hl 3 rfl) ?_
  refine lv_iconst (v := (3 : Int32)) hx hb dL_law_476 (by decide) ?_
  refine lv_iadd hx hb dL_law_477 ?_
  refine va_sld hx hb hX hbl hbA hG.2.2.2.2 h3 dL_law_478 ?_
  refine lv_aload_n hx hb dL_law_479 rfl (lv_at hl 0 rfl) ?_
  refine lv_iload_n hx hb dL_law_480 rfl (lv_at hl 3 rfl) ?_
  refine lv_iconst (v := (4 : Int32)) hx hb dL_law_481 (by decide) ?_
  refine lv_iadd hx hb dL_law_482 ?_
  refine va_sld hx hb hX hbl hbA hG.2.2.2.2 h4 dL_law_483 ?_
  refine lv_aload_n hx hb dL_law_484 rfl (lv_at hl 0 rfl) ?_
  refine lv_iload_n hx hb dL_law_485 rfl (lv_at hl 3 rfl) ?_
  refine lv_iconst (v := (5 : Int32)) hx hb dL_law_486 (by decide) ?_
  refine lv_iadd hx hb dL_law_487 ?_
  refine va_sld hx hb hX hbl hbA hG.2.2.2.2 h5 dL_law_488 ?_
  refine zl_calli (va_runV (As := [.int (xs (v + 1).toNatClampNeg), .int (xs (v + 2).toNatClampNeg), .int (xs (v + 3).toNatClampNeg), .int (xs (v + 4).toNatClampNeg), .int (xs (v + 5).toNatClampNeg)]) (rest := []) ⟨hx, hb, hml, hown, hts⟩ (mX6_shift l D ad cA (xs (v + 1).toNatClampNeg) (xs (v + 2).toNatClampNeg) (xs (v + 3).toNatClampNeg) (xs (v + 4).toNatClampNeg) (xs (v + 5).toNatClampNeg) I r I1 eX _) (cwV 5 hts gL_law_X6_shift rfl rfl rfl hd_X6_shift ⟨Nat.le_of_ble_eq_true rfl, Nat.le_of_ble_eq_true rfl⟩) (zl_preV hG shX_0 vc_6) rfl rfl hl.1 rfl (lv_room (Nat.le_of_ble_eq_true rfl)) dL_law_489 ⟨Nat.le_of_ble_eq_true rfl, Nat.le_of_ble_eq_true rfl⟩) hG (fun H locs hG => ?_)
  refine lv_aload_n hx hb dL_law_492 rfl (lv_at hl 2 rfl) ?_
  refine lv_aload_n hx hb dL_law_493 rfl (lv_at hl 0 rfl) ?_
  refine lv_iload_n hx hb dL_law_494 rfl (lv_at hl 3 rfl) ?_
  refine lv_iconst (v := (1 : Int32)) hx hb dL_law_495 (by decide) ?_
  refine lv_iadd hx hb dL_law_496 ?_
  refine va_sld hx hb hX hbl hbA hG.2.2.2.2 h1 dL_law_497 ?_
  refine lv_aload_n hx hb dL_law_498 rfl (lv_at hl 0 rfl) ?_
  refine lv_iload_n hx hb dL_law_499 rfl (lv_at hl 3 rfl) ?_
  refine lv_iconst (v := (2 : Int32)) hx hb dL_law_500 (by decide) ?_
  refine lv_iadd hx hb dL_law_501 ?_
  refine va_sld hx hb hX hbl hbA hG.2.2.2.2 h2 dL_law_502 ?_
  refine lv_aload_n hx hb dL_law_503 rfl (lv_at hl 0 rfl) ?_
  refine lv_iload_n hx hb dL_law_504 rfl (lv_at hl 3 rfl) ?_
  refine lv_iconst (v := (3 : Int32)) hx hb dL_law_505 (by decide) ?_
  refine lv_iadd hx hb dL_law_506 ?_
  refine va_sld hx hb hX hbl hbA hG.2.2.2.2 h3 dL_law_507 ?_
  refine lv_aload_n hx hb dL_law_508 rfl (lv_at hl 0 rfl) ?_
  refine lv_iload_n hx hb dL_law_509 rfl (lv_at hl 3 rfl) ?_
  refine lv_iconst (v := (4 : Int32)) hx hb dL_law_510 (by decide) ?_
  refine lv_iadd hx hb dL_law_511 ?_
  refine va_sld hx hb hX hbl hbA hG.2.2.2.2 h4 dL_law_512 ?_
  refine lv_aload_n hx hb dL_law_513 rfl (lv_at hl 0 rfl) ?_
  refine lv_iload_n hx hb dL_law_514 rfl (lv_at hl 3 rfl) ?_
  refine lv_iconst (v := (5 : Int32)) hx hb dL_law_515 (by decide) ?_
  refine lv_iadd hx hb dL_law_516 ?_
  refine va_sld hx hb hX hbl hbA hG.2.2.2.2 h5 dL_law_517 ?_
  refine zl_calli (va_runV (As := [.int (xs (v + 1).toNatClampNeg), .int (xs (v + 2).toNatClampNeg), .int (xs (v + 3).toNatClampNeg), .int (xs (v + 4).toNatClampNeg), .int (xs (v + 5).toNatClampNeg)]) (rest := [.int r]) ⟨hx, hb, hml, hown, hts⟩ (mX7_shift l D bd cA (xs (v + 1).toNatClampNeg) (xs (v + 2).toNatClampNeg) (xs (v + 3).toNatClampNeg) (xs (v + 4).toNatClampNeg) (xs (v + 5).toNatClampNeg) J r J1 eM _) (cwV 5 hts gL_law_X7_shift rfl rfl rfl hd_X7_shift ⟨Nat.le_of_ble_eq_true rfl, Nat.le_of_ble_eq_true rfl⟩) (zl_preV (zl2_swap hG) shM_0 vc_7) rfl rfl hl.1 rfl (lv_room (Nat.le_of_ble_eq_true rfl)) dL_law_518 ⟨Nat.le_of_ble_eq_true rfl, Nat.le_of_ble_eq_true rfl⟩) (zl2_swap hG) (fun H locs hG => ?_)
  refine lv_icmp_eq (tgt := 1264) hx hb dL_law_521 (by decide) (fun _ => ?_) (fun z => absurd rfl z)
  exact kk _ _ _ _ (zl2_swap hG) hR
set_option maxHeartbeats 4000000 in
set_option maxRecDepth 100000 in
theorem zlc_10 {p : Program} {l : Launch} {e : Env} {s : State} {m : MethodId} {below : List Frame} {meth : Method} {c : Code} {H : Heap} {locs : List Loc} {Q : State → Prop} {ls : Array Slot} {D : va_G} {cA : Nat → ClassId} {ad bd : Nat → Nat} {I J : zxI} {b L : Nat} {xs : Nat → Int32} {v : Int32} (C0 : zlC p s m meth c b L xs) (hG : zl2 D cA shX ad I shM bd J s H locs) (h : zR I J) (hl : lv_has ls 4 [(0, .ref b), (1, .ref (ad 0)), (2, .ref (bd 0)), (3, .int v)]) (h1 : vp_in (v + 1) L) (h2 : vp_in (v + 2) L) (h3 : vp_in (v + 3) L) (h4 : vp_in (v + 4) L) (h5 : vp_in (v + 5) L) (kk : ∀ (H1 : Heap) (locs1 : List Loc) (I1 J1 : zxI), zl2 D cA shX ad I1 shM bd J1 s H1 locs1 → zR I1 J1 → W p l e room_1 s m #[Value.ref b] below meth c H1 locs1 58 825 Q (F0 m 1264 ls [])) : W p l e room_1 s m #[Value.ref b] below meth c H locs 58 825 Q (F0 m 526 ls []) := by
  obtain ⟨hx, hb, hml, hown, hts, hX, hbl⟩ := C0
  have hbA : ¬ (fun q : Nat => s.heap.size ≤ q) b := Nat.not_le.mpr hbl
  obtain ⟨r, I1, J1, eX, eM, hR⟩ := zop_order h (xs (v + 1).toNatClampNeg) (xs (v + 2).toNatClampNeg) (xs (v + 3).toNatClampNeg) (xs (v + 4).toNatClampNeg) (xs (v + 5).toNatClampNeg)
  refine lv_aload_n hx hb dL_law_526 rfl (lv_at hl 1 rfl) ?_
  refine lv_aload_n hx hb dL_law_527 rfl (lv_at hl 0 rfl) ?_
  refine lv_iload_n hx hb dL_law_528 rfl (lv_at hl 3 rfl) ?_
  refine lv_iconst (v := (1 : Int32)) hx hb dL_law_529 (by decide) ?_
  refine lv_iadd hx hb dL_law_530 ?_
  refine va_sld hx hb hX hbl hbA hG.2.2.2.2 h1 dL_law_531 ?_
  refine lv_aload_n hx hb dL_law_532 rfl (lv_at hl 0 rfl) ?_
  refine lv_iload_n hx hb dL_law_533 rfl (lv_at hl 3 rfl) ?_
  refine lv_iconst (v := (2 : Int32)) hx hb dL_law_534 (by decide) ?_
  refine lv_iadd hx hb dL_law_535 ?_
  refine va_sld hx hb hX hbl hbA hG.2.2.2.2 h2 dL_law_536 ?_
  refine lv_aload_n hx hb dL_law_537 rfl (lv_at hl 0 rfl) ?_
  refine lv_iload_n hx hb dL_law_538 rfl (lv_at hl 3 rfl) ?_
  refine lv_iconst (v := (3 : Int32)) hx hb dL_law_539 (by decide) ?_
  refine lv_iadd hx hb dL_law_540 ?_
  refine va_sld hx hb hX hbl hbA hG.2.2.2.2 h3 dL_law_541 ?_
  refine lv_aload_n hx hb dL_law_542 rfl (lv_at hl 0 rfl) ?_
  refine lv_iload_n hx hb dL_law_543 rfl (lv_at hl 3 rfl) ?_
  refine lv_iconst (v := (4 : Int32)) hx hb dL_law_544 (by decide) ?_
  refine lv_iadd hx hb dL_law_545 ?_
  refine va_sld hx hb hX hbl hbA hG.2.2.2.2 h4 dL_law_546 ?_
  refine lv_aload_n hx hb dL_law_547 rfl (lv_at hl 0 rfl) ?_
  refine lv_iload_n hx hb dL_law_548 rfl (lv_at hl 3 rfl) ?_
  refine lv_iconst (v := (5 : Int32)) hx hb dL_law_549 (by decide) ?_
  refine lv_iadd hx hb dL_law_550 ?_
  refine va_sld hx hb hX hbl hbA hG.2.2.2.2 h5 dL_law_551 ?_
  refine zl_calli (va_runV (As := [.int (xs (v + 1).toNatClampNeg), .int (xs (v + 2).toNatClampNeg), .int (xs (v + 3).toNatClampNeg), .int (xs (v + 4).toNatClampNeg), .int (xs (v + 5).toNatClampNeg)]) (rest := []) ⟨hx, hb, hml, hown, hts⟩ (mX6_order l D ad cA (xs (v + 1).toNatClampNeg) (xs (v + 2).toNatClampNeg) (xs (v + 3).toNatClampNeg) (xs (v + 4).toNatClampNeg) (xs (v + 5).toNatClampNeg) I r I1 eX _) (cwV 5 hts gL_law_X6_order rfl rfl rfl hd_X6_order ⟨Nat.le_of_ble_eq_true rfl, Nat.le_of_ble_eq_true rfl⟩) (zl_preV hG shX_0 vc_6) rfl rfl hl.1 rfl (lv_room (Nat.le_of_ble_eq_true rfl)) dL_law_552 ⟨Nat.le_of_ble_eq_true rfl, Nat.le_of_ble_eq_true rfl⟩) hG (fun H locs hG => ?_)
  refine lv_aload_n hx hb dL_law_555 rfl (lv_at hl 2 rfl) ?_
  refine lv_aload_n hx hb dL_law_556 rfl (lv_at hl 0 rfl) ?_
  refine lv_iload_n hx hb dL_law_557 rfl (lv_at hl 3 rfl) ?_
  refine lv_iconst (v := (1 : Int32)) hx hb dL_law_558 (by decide) ?_
  refine lv_iadd hx hb dL_law_559 ?_
  refine va_sld hx hb hX hbl hbA hG.2.2.2.2 h1 dL_law_560 ?_
  refine lv_aload_n hx hb dL_law_561 rfl (lv_at hl 0 rfl) ?_
  refine lv_iload_n hx hb dL_law_562 rfl (lv_at hl 3 rfl) ?_
  refine lv_iconst (v := (2 : Int32)) hx hb dL_law_563 (by decide) ?_
  refine lv_iadd hx hb dL_law_564 ?_
  refine va_sld hx hb hX hbl hbA hG.2.2.2.2 h2 dL_law_565 ?_
  refine lv_aload_n hx hb dL_law_566 rfl (lv_at hl 0 rfl) ?_
  refine lv_iload_n hx hb dL_law_567 rfl (lv_at hl 3 rfl) ?_
  refine lv_iconst (v := (3 : Int32)) hx hb dL_law_568 (by decide) ?_
  refine lv_iadd hx hb dL_law_569 ?_
  refine va_sld hx hb hX hbl hbA hG.2.2.2.2 h3 dL_law_570 ?_
  refine lv_aload_n hx hb dL_law_571 rfl (lv_at hl 0 rfl) ?_
  refine lv_iload_n hx hb dL_law_572 rfl (lv_at hl 3 rfl) ?_
  refine lv_iconst (v := (4 : Int32)) hx hb dL_law_573 (by decide) ?_
  refine lv_iadd hx hb dL_law_574 ?_
  refine va_sld hx hb hX hbl hbA hG.2.2.2.2 h4 dL_law_575 ?_
  refine lv_aload_n hx hb dL_law_576 rfl (lv_at hl 0 rfl) ?_
  refine lv_iload_n hx hb dL_law_577 rfl (lv_at hl 3 rfl) ?_
  refine lv_iconst (v := (5 : Int32)) hx hb dL_law_578 (by decide) ?_
  refine lv_iadd hx hb dL_law_579 ?_
  refine va_sld hx hb hX hbl hbA hG.2.2.2.2 h5 dL_law_580 ?_
  refine zl_calli (va_runV (As := [.int (xs (v + 1).toNatClampNeg), .int (xs (v + 2).toNatClampNeg), .int (xs (v + 3).toNatClampNeg), .int (xs (v + 4).toNatClampNeg), .int (xs (v + 5).toNatClampNeg)]) (rest := [.int r]) ⟨hx, hb, hml, hown, hts⟩ (mX7_order l D bd cA (xs (v + 1).toNatClampNeg) (xs (v + 2).toNatClampNeg) (xs (v + 3).toNatClampNeg) (xs (v + 4).toNatClampNeg) (xs (v + 5).toNatClampNeg) J r J1 eM _) (cwV 5 hts gL_law_X7_order rfl rfl rfl hd_X7_order ⟨Nat.le_of_ble_eq_true rfl, Nat.le_of_ble_eq_true rfl⟩) (zl_preV (zl2_swap hG) shM_0 vc_7) rfl rfl hl.1 rfl (lv_room (Nat.le_of_ble_eq_true rfl)) dL_law_581 ⟨Nat.le_of_ble_eq_true rfl, Nat.le_of_ble_eq_true rfl⟩) (zl2_swap hG) (fun H locs hG => ?_)
  refine lv_icmp_eq (tgt := 1264) hx hb dL_law_584 (by decide) (fun _ => ?_) (fun z => absurd rfl z)
  exact kk _ _ _ _ (zl2_swap hG) hR
set_option maxHeartbeats 4000000 in
set_option maxRecDepth 100000 in
theorem zlc_11 {p : Program} {l : Launch} {e : Env} {s : State} {m : MethodId} {below : List Frame} {meth : Method} {c : Code} {H : Heap} {locs : List Loc} {Q : State → Prop} {ls : Array Slot} {D : va_G} {cA : Nat → ClassId} {ad bd : Nat → Nat} {I J : zxI} {b L : Nat} {xs : Nat → Int32} {v : Int32} (C0 : zlC p s m meth c b L xs) (hG : zl2 D cA shX ad I shM bd J s H locs) (h : zR I J) (hl : lv_has ls 4 [(0, .ref b), (1, .ref (ad 0)), (2, .ref (bd 0)), (3, .int v)]) (h1 : vp_in (v + 1) L) (h2 : vp_in (v + 2) L) (h3 : vp_in (v + 3) L) (h4 : vp_in (v + 4) L) (h5 : vp_in (v + 5) L) (kk : ∀ (H1 : Heap) (locs1 : List Loc) (I1 J1 : zxI), zl2 D cA shX ad I1 shM bd J1 s H1 locs1 → zR I1 J1 → W p l e room_1 s m #[Value.ref b] below meth c H1 locs1 58 825 Q (F0 m 1264 ls [])) : W p l e room_1 s m #[Value.ref b] below meth c H locs 58 825 Q (F0 m 589 ls []) := by
  obtain ⟨hx, hb, hml, hown, hts, hX, hbl⟩ := C0
  have hbA : ¬ (fun q : Nat => s.heap.size ≤ q) b := Nat.not_le.mpr hbl
  obtain ⟨r, I1, J1, eX, eM, hR⟩ := zop_shut h (xs (v + 1).toNatClampNeg) (xs (v + 2).toNatClampNeg) (xs (v + 3).toNatClampNeg) (xs (v + 4).toNatClampNeg) (xs (v + 5).toNatClampNeg)
  refine lv_aload_n hx hb dL_law_589 rfl (lv_at hl 1 rfl) ?_
  refine lv_aload_n hx hb dL_law_590 rfl (lv_at hl 0 rfl) ?_
  refine lv_iload_n hx hb dL_law_591 rfl (lv_at hl 3 rfl) ?_
  refine lv_iconst (v := (1 : Int32)) hx hb dL_law_592 (by decide) ?_
  refine lv_iadd hx hb dL_law_593 ?_
  refine va_sld hx hb hX hbl hbA hG.2.2.2.2 h1 dL_law_594 ?_
  refine lv_aload_n hx hb dL_law_595 rfl (lv_at hl 0 rfl) ?_
  refine lv_iload_n hx hb dL_law_596 rfl (lv_at hl 3 rfl) ?_
  refine lv_iconst (v := (2 : Int32)) hx hb dL_law_597 (by decide) ?_
  refine lv_iadd hx hb dL_law_598 ?_
  refine va_sld hx hb hX hbl hbA hG.2.2.2.2 h2 dL_law_599 ?_
  refine lv_aload_n hx hb dL_law_600 rfl (lv_at hl 0 rfl) ?_
  refine lv_iload_n hx hb dL_law_601 rfl (lv_at hl 3 rfl) ?_
  refine lv_iconst (v := (3 : Int32)) hx hb dL_law_602 (by decide) ?_
  refine lv_iadd hx hb dL_law_603 ?_
  refine va_sld hx hb hX hbl hbA hG.2.2.2.2 h3 dL_law_604 ?_
  refine lv_aload_n hx hb dL_law_605 rfl (lv_at hl 0 rfl) ?_
  refine lv_iload_n hx hb dL_law_606 rfl (lv_at hl 3 rfl) ?_
  refine lv_iconst (v := (4 : Int32)) hx hb dL_law_607 (by decide) ?_
  refine lv_iadd hx hb dL_law_608 ?_
  refine va_sld hx hb hX hbl hbA hG.2.2.2.2 h4 dL_law_609 ?_
  refine lv_aload_n hx hb dL_law_610 rfl (lv_at hl 0 rfl) ?_
  refine lv_iload_n hx hb dL_law_611 rfl (lv_at hl 3 rfl) ?_
  refine lv_iconst (v := (5 : Int32)) hx hb dL_law_612 (by decide) ?_
  refine lv_iadd hx hb dL_law_613 ?_
  refine va_sld hx hb hX hbl hbA hG.2.2.2.2 h5 dL_law_614 ?_
  refine zl_calli (va_runV (As := [.int (xs (v + 1).toNatClampNeg), .int (xs (v + 2).toNatClampNeg), .int (xs (v + 3).toNatClampNeg), .int (xs (v + 4).toNatClampNeg), .int (xs (v + 5).toNatClampNeg)]) (rest := []) ⟨hx, hb, hml, hown, hts⟩ (mX6_shut l D ad cA (xs (v + 1).toNatClampNeg) (xs (v + 2).toNatClampNeg) (xs (v + 3).toNatClampNeg) (xs (v + 4).toNatClampNeg) (xs (v + 5).toNatClampNeg) I r I1 eX _) (cwV 5 hts gL_law_X6_shut rfl rfl rfl hd_X6_shut ⟨Nat.le_of_ble_eq_true rfl, Nat.le_of_ble_eq_true rfl⟩) (zl_preV hG shX_0 vc_6) rfl rfl hl.1 rfl (lv_room (Nat.le_of_ble_eq_true rfl)) dL_law_615 ⟨Nat.le_of_ble_eq_true rfl, Nat.le_of_ble_eq_true rfl⟩) hG (fun H locs hG => ?_)
  refine lv_aload_n hx hb dL_law_618 rfl (lv_at hl 2 rfl) ?_
  refine lv_aload_n hx hb dL_law_619 rfl (lv_at hl 0 rfl) ?_
  refine lv_iload_n hx hb dL_law_620 rfl (lv_at hl 3 rfl) ?_
  refine lv_iconst (v := (1 : Int32)) hx hb dL_law_621 (by decide) ?_
  refine lv_iadd hx hb dL_law_622 ?_
  refine va_sld hx hb hX hbl hbA hG.2.2.2.2 h1 dL_law_623 ?_
  refine lv_aload_n hx hb dL_law_624 rfl (lv_at hl 0 rfl) ?_
  refine lv_iload_n hx hb dL_law_625 rfl (lv_at hl 3 rfl) ?_
  refine lv_iconst (v := (2 : Int32)) hx hb dL_law_626 (by decide) ?_
  refine lv_iadd hx hb dL_law_627 ?_
  refine va_sld hx hb hX hbl hbA hG.2.2.2.2 h2 dL_law_628 ?_
  refine lv_aload_n hx hb dL_law_629 rfl (lv_at hl 0 rfl) ?_
  refine lv_iload_n hx hb dL_law_630 rfl (lv_at hl 3 rfl) ?_
  refine lv_iconst (v := (3 : Int32)) hx hb dL_law_631 (by decide) ?_
  refine lv_iadd hx hb dL_law_632 ?_
  refine va_sld hx hb hX hbl hbA hG.2.2.2.2 h3 dL_law_633 ?_
  refine lv_aload_n hx hb dL_law_634 rfl (lv_at hl 0 rfl) ?_
  refine lv_iload_n hx hb dL_law_635 rfl (lv_at hl 3 rfl) ?_
  refine lv_iconst (v := (4 : Int32)) hx hb dL_law_636 (by decide) ?_
  refine lv_iadd hx hb dL_law_637 ?_
  refine va_sld hx hb hX hbl hbA hG.2.2.2.2 h4 dL_law_638 ?_
  refine lv_aload_n hx hb dL_law_639 rfl (lv_at hl 0 rfl) ?_
  refine lv_iload_n hx hb dL_law_640 rfl (lv_at hl 3 rfl) ?_
  refine lv_iconst (v := (5 : Int32)) hx hb dL_law_641 (by decide) ?_
  refine lv_iadd hx hb dL_law_642 ?_
  refine va_sld hx hb hX hbl hbA hG.2.2.2.2 h5 dL_law_643 ?_
  refine zl_calli (va_runV (As := [.int (xs (v + 1).toNatClampNeg), .int (xs (v + 2).toNatClampNeg), .int (xs (v + 3).toNatClampNeg), .int (xs (v + 4).toNatClampNeg), .int (xs (v + 5).toNatClampNeg)]) (rest := [.int r]) ⟨hx, hb, hml, hown, hts⟩ (mX7_shut l D bd cA (xs (v + 1).toNatClampNeg) (xs (v + 2).toNatClampNeg) (xs (v + 3).toNatClampNeg) (xs (v + 4).toNatClampNeg) (xs (v + 5).toNatClampNeg) J r J1 eM _) (cwV 5 hts gL_law_X7_shut rfl rfl rfl hd_X7_shut ⟨Nat.le_of_ble_eq_true rfl, Nat.le_of_ble_eq_true rfl⟩) (zl_preV (zl2_swap hG) shM_0 vc_7) rfl rfl hl.1 rfl (lv_room (Nat.le_of_ble_eq_true rfl)) dL_law_644 ⟨Nat.le_of_ble_eq_true rfl, Nat.le_of_ble_eq_true rfl⟩) (zl2_swap hG) (fun H locs hG => ?_)
  refine lv_icmp_eq (tgt := 1264) hx hb dL_law_647 (by decide) (fun _ => ?_) (fun z => absurd rfl z)
  exact kk _ _ _ _ (zl2_swap hG) hR
set_option maxHeartbeats 4000000 in
set_option maxRecDepth 100000 in
theorem zlc_12 {p : Program} {l : Launch} {e : Env} {s : State} {m : MethodId} {below : List Frame} {meth : Method} {c : Code} {H : Heap} {locs : List Loc} {Q : State → Prop} {ls : Array Slot} {D : va_G} {cA : Nat → ClassId} {ad bd : Nat → Nat} {I J : zxI} {b L : Nat} {xs : Nat → Int32} {v : Int32} (C0 : zlC p s m meth c b L xs) (hG : zl2 D cA shX ad I shM bd J s H locs) (h : zR I J) (hl : lv_has ls 4 [(0, .ref b), (1, .ref (ad 0)), (2, .ref (bd 0)), (3, .int v)]) (h1 : vp_in (v + 1) L) (h2 : vp_in (v + 2) L) (h3 : vp_in (v + 3) L) (h4 : vp_in (v + 4) L) (h5 : vp_in (v + 5) L) (kk : ∀ (H1 : Heap) (locs1 : List Loc) (I1 J1 : zxI), zl2 D cA shX ad I1 shM bd J1 s H1 locs1 → zR I1 J1 → W p l e room_1 s m #[Value.ref b] below meth c H1 locs1 58 825 Q (F0 m 1264 ls [])) : W p l e room_1 s m #[Value.ref b] below meth c H locs 58 825 Q (F0 m 652 ls []) := by
  obtain ⟨hx, hb, hml, hown, hts, hX, hbl⟩ := C0
  have hbA : ¬ (fun q : Nat => s.heap.size ≤ q) b := Nat.not_le.mpr hbl
  obtain ⟨r, I1, J1, eX, eM, hR⟩ := zop_rests h
  refine lv_aload_n hx hb dL_law_652 rfl (lv_at hl 1 rfl) ?_
  refine zl_calli (va_runV (As := []) (rest := []) ⟨hx, hb, hml, hown, hts⟩ (mX6_rests l D ad cA  I r I1 eX _) (cwV 0 hts gL_law_X6_rests rfl rfl rfl hd_X6_rests ⟨Nat.le_of_ble_eq_true rfl, Nat.le_of_ble_eq_true rfl⟩) (zl_preV hG shX_0 vc_6) rfl rfl hl.1 rfl (lv_room (Nat.le_of_ble_eq_true rfl)) dL_law_653 ⟨Nat.le_of_ble_eq_true rfl, Nat.le_of_ble_eq_true rfl⟩) hG (fun H locs hG => ?_)
  refine lv_aload_n hx hb dL_law_656 rfl (lv_at hl 2 rfl) ?_
  refine zl_calli (va_runV (As := []) (rest := [.int r]) ⟨hx, hb, hml, hown, hts⟩ (mX7_rests l D bd cA  J r J1 eM _) (cwV 0 hts gL_law_X7_rests rfl rfl rfl hd_X7_rests ⟨Nat.le_of_ble_eq_true rfl, Nat.le_of_ble_eq_true rfl⟩) (zl_preV (zl2_swap hG) shM_0 vc_7) rfl rfl hl.1 rfl (lv_room (Nat.le_of_ble_eq_true rfl)) dL_law_657 ⟨Nat.le_of_ble_eq_true rfl, Nat.le_of_ble_eq_true rfl⟩) (zl2_swap hG) (fun H locs hG => ?_)
  refine lv_icmp_eq (tgt := 1264) hx hb dL_law_660 (by decide) (fun _ => ?_) (fun z => absurd rfl z)
  exact kk _ _ _ _ (zl2_swap hG) hR
set_option maxHeartbeats 4000000 in
set_option maxRecDepth 100000 in
theorem zlc_13 {p : Program} {l : Launch} {e : Env} {s : State} {m : MethodId} {below : List Frame} {meth : Method} {c : Code} {H : Heap} {locs : List Loc} {Q : State → Prop} {ls : Array Slot} {D : va_G} {cA : Nat → ClassId} {ad bd : Nat → Nat} {I J : zxI} {b L : Nat} {xs : Nat → Int32} {v : Int32} (C0 : zlC p s m meth c b L xs) (hG : zl2 D cA shX ad I shM bd J s H locs) (h : zR I J) (hl : lv_has ls 4 [(0, .ref b), (1, .ref (ad 0)), (2, .ref (bd 0)), (3, .int v)]) (h1 : vp_in (v + 1) L) (h2 : vp_in (v + 2) L) (h3 : vp_in (v + 3) L) (h4 : vp_in (v + 4) L) (h5 : vp_in (v + 5) L) (kk : ∀ (H1 : Heap) (locs1 : List Loc) (I1 J1 : zxI), zl2 D cA shX ad I1 shM bd J1 s H1 locs1 → zR I1 J1 → W p l e room_1 s m #[Value.ref b] below meth c H1 locs1 58 825 Q (F0 m 1264 ls [])) : W p l e room_1 s m #[Value.ref b] below meth c H locs 58 825 Q (F0 m 665 ls []) := by
  obtain ⟨hx, hb, hml, hown, hts, hX, hbl⟩ := C0
  have hbA : ¬ (fun q : Nat => s.heap.size ≤ q) b := Nat.not_le.mpr hbl
  obtain ⟨r, I1, J1, eX, eM, hR⟩ := zop_clears h (xs (v + 1).toNatClampNeg) (xs (v + 2).toNatClampNeg)
  refine lv_aload_n hx hb dL_law_665 rfl (lv_at hl 1 rfl) ?_
  refine lv_aload_n hx hb dL_law_666 rfl (lv_at hl 0 rfl) ?_
  refine lv_iload_n hx hb dL_law_667 rfl (lv_at hl 3 rfl) ?_
  refine lv_iconst (v := (1 : Int32)) hx hb dL_law_668 (by decide) ?_
  refine lv_iadd hx hb dL_law_669 ?_
  refine va_sld hx hb hX hbl hbA hG.2.2.2.2 h1 dL_law_670 ?_
  refine lv_aload_n hx hb dL_law_671 rfl (lv_at hl 0 rfl) ?_
  refine lv_iload_n hx hb dL_law_672 rfl (lv_at hl 3 rfl) ?_
  refine lv_iconst (v := (2 : Int32)) hx hb dL_law_673 (by decide) ?_
  refine lv_iadd hx hb dL_law_674 ?_
  refine va_sld hx hb hX hbl hbA hG.2.2.2.2 h2 dL_law_675 ?_
  refine zl_calli (va_runV (As := [.int (xs (v + 1).toNatClampNeg), .int (xs (v + 2).toNatClampNeg)]) (rest := []) ⟨hx, hb, hml, hown, hts⟩ (mX6_clears l D ad cA (xs (v + 1).toNatClampNeg) (xs (v + 2).toNatClampNeg) I r I1 eX _) (cwV 2 hts gL_law_X6_clears rfl rfl rfl hd_X6_clears ⟨Nat.le_of_ble_eq_true rfl, Nat.le_of_ble_eq_true rfl⟩) (zl_preV hG shX_0 vc_6) rfl rfl hl.1 rfl (lv_room (Nat.le_of_ble_eq_true rfl)) dL_law_676 ⟨Nat.le_of_ble_eq_true rfl, Nat.le_of_ble_eq_true rfl⟩) hG (fun H locs hG => ?_)
  refine lv_aload_n hx hb dL_law_679 rfl (lv_at hl 2 rfl) ?_
  refine lv_aload_n hx hb dL_law_680 rfl (lv_at hl 0 rfl) ?_
  refine lv_iload_n hx hb dL_law_681 rfl (lv_at hl 3 rfl) ?_
  refine lv_iconst (v := (1 : Int32)) hx hb dL_law_682 (by decide) ?_
  refine lv_iadd hx hb dL_law_683 ?_
  refine va_sld hx hb hX hbl hbA hG.2.2.2.2 h1 dL_law_684 ?_
  refine lv_aload_n hx hb dL_law_685 rfl (lv_at hl 0 rfl) ?_
  refine lv_iload_n hx hb dL_law_686 rfl (lv_at hl 3 rfl) ?_
  refine lv_iconst (v := (2 : Int32)) hx hb dL_law_687 (by decide) ?_
  refine lv_iadd hx hb dL_law_688 ?_
  refine va_sld hx hb hX hbl hbA hG.2.2.2.2 h2 dL_law_689 ?_
  refine zl_calli (va_runV (As := [.int (xs (v + 1).toNatClampNeg), .int (xs (v + 2).toNatClampNeg)]) (rest := [.int r]) ⟨hx, hb, hml, hown, hts⟩ (mX7_clears l D bd cA (xs (v + 1).toNatClampNeg) (xs (v + 2).toNatClampNeg) J r J1 eM _) (cwV 2 hts gL_law_X7_clears rfl rfl rfl hd_X7_clears ⟨Nat.le_of_ble_eq_true rfl, Nat.le_of_ble_eq_true rfl⟩) (zl_preV (zl2_swap hG) shM_0 vc_7) rfl rfl hl.1 rfl (lv_room (Nat.le_of_ble_eq_true rfl)) dL_law_690 ⟨Nat.le_of_ble_eq_true rfl, Nat.le_of_ble_eq_true rfl⟩) (zl2_swap hG) (fun H locs hG => ?_)
  refine lv_icmp_eq (tgt := 1264) hx hb dL_law_693 (by decide) (fun _ => ?_) (fun z => absurd rfl z)
  exact kk _ _ _ _ (zl2_swap hG) hR
set_option maxHeartbeats 4000000 in
set_option maxRecDepth 100000 in
theorem zlc_14 {p : Program} {l : Launch} {e : Env} {s : State} {m : MethodId} {below : List Frame} {meth : Method} {c : Code} {H : Heap} {locs : List Loc} {Q : State → Prop} {ls : Array Slot} {D : va_G} {cA : Nat → ClassId} {ad bd : Nat → Nat} {I J : zxI} {b L : Nat} {xs : Nat → Int32} {v : Int32} (C0 : zlC p s m meth c b L xs) (hG : zl2 D cA shX ad I shM bd J s H locs) (h : zR I J) (hl : lv_has ls 4 [(0, .ref b), (1, .ref (ad 0)), (2, .ref (bd 0)), (3, .int v)]) (h1 : vp_in (v + 1) L) (h2 : vp_in (v + 2) L) (h3 : vp_in (v + 3) L) (h4 : vp_in (v + 4) L) (h5 : vp_in (v + 5) L) (kk : ∀ (H1 : Heap) (locs1 : List Loc) (I1 J1 : zxI), zl2 D cA shX ad I1 shM bd J1 s H1 locs1 → zR I1 J1 → W p l e room_1 s m #[Value.ref b] below meth c H1 locs1 58 825 Q (F0 m 1264 ls [])) : W p l e room_1 s m #[Value.ref b] below meth c H locs 58 825 Q (F0 m 698 ls []) := by
  obtain ⟨hx, hb, hml, hown, hts, hX, hbl⟩ := C0
  have hbA : ¬ (fun q : Nat => s.heap.size ≤ q) b := Nat.not_le.mpr hbl
  obtain ⟨r, I1, J1, eX, eM, hR⟩ := zop_perches h (xs (v + 1).toNatClampNeg)
  refine lv_aload_n hx hb dL_law_698 rfl (lv_at hl 1 rfl) ?_
  refine lv_aload_n hx hb dL_law_699 rfl (lv_at hl 0 rfl) ?_
  refine lv_iload_n hx hb dL_law_700 rfl (lv_at hl 3 rfl) ?_
  refine lv_iconst (v := (1 : Int32)) hx hb dL_law_701 (by decide) ?_
  refine lv_iadd hx hb dL_law_702 ?_
  refine va_sld hx hb hX hbl hbA hG.2.2.2.2 h1 dL_law_703 ?_
  refine zl_calli (va_runV (As := [.int (xs (v + 1).toNatClampNeg)]) (rest := []) ⟨hx, hb, hml, hown, hts⟩ (mX6_perches l D ad cA (xs (v + 1).toNatClampNeg) I r I1 eX _) (cwV 1 hts gL_law_X6_perches rfl rfl rfl hd_X6_perches ⟨Nat.le_of_ble_eq_true rfl, Nat.le_of_ble_eq_true rfl⟩) (zl_preV hG shX_0 vc_6) rfl rfl hl.1 rfl (lv_room (Nat.le_of_ble_eq_true rfl)) dL_law_704 ⟨Nat.le_of_ble_eq_true rfl, Nat.le_of_ble_eq_true rfl⟩) hG (fun H locs hG => ?_)
  refine lv_aload_n hx hb dL_law_707 rfl (lv_at hl 2 rfl) ?_
  refine lv_aload_n hx hb dL_law_708 rfl (lv_at hl 0 rfl) ?_
  refine lv_iload_n hx hb dL_law_709 rfl (lv_at hl 3 rfl) ?_
  refine lv_iconst (v := (1 : Int32)) hx hb dL_law_710 (by decide) ?_
  refine lv_iadd hx hb dL_law_711 ?_
  refine va_sld hx hb hX hbl hbA hG.2.2.2.2 h1 dL_law_712 ?_
  refine zl_calli (va_runV (As := [.int (xs (v + 1).toNatClampNeg)]) (rest := [.int r]) ⟨hx, hb, hml, hown, hts⟩ (mX7_perches l D bd cA (xs (v + 1).toNatClampNeg) J r J1 eM _) (cwV 1 hts gL_law_X7_perches rfl rfl rfl hd_X7_perches ⟨Nat.le_of_ble_eq_true rfl, Nat.le_of_ble_eq_true rfl⟩) (zl_preV (zl2_swap hG) shM_0 vc_7) rfl rfl hl.1 rfl (lv_room (Nat.le_of_ble_eq_true rfl)) dL_law_713 ⟨Nat.le_of_ble_eq_true rfl, Nat.le_of_ble_eq_true rfl⟩) (zl2_swap hG) (fun H locs hG => ?_)
  refine lv_icmp_eq (tgt := 1264) hx hb dL_law_716 (by decide) (fun _ => ?_) (fun z => absurd rfl z)
  exact kk _ _ _ _ (zl2_swap hG) hR
set_option maxHeartbeats 4000000 in
set_option maxRecDepth 100000 in
theorem zlc_15 {p : Program} {l : Launch} {e : Env} {s : State} {m : MethodId} {below : List Frame} {meth : Method} {c : Code} {H : Heap} {locs : List Loc} {Q : State → Prop} {ls : Array Slot} {D : va_G} {cA : Nat → ClassId} {ad bd : Nat → Nat} {I J : zxI} {b L : Nat} {xs : Nat → Int32} {v : Int32} (C0 : zlC p s m meth c b L xs) (hG : zl2 D cA shX ad I shM bd J s H locs) (h : zR I J) (hl : lv_has ls 4 [(0, .ref b), (1, .ref (ad 0)), (2, .ref (bd 0)), (3, .int v)]) (h1 : vp_in (v + 1) L) (h2 : vp_in (v + 2) L) (h3 : vp_in (v + 3) L) (h4 : vp_in (v + 4) L) (h5 : vp_in (v + 5) L) (kk : ∀ (H1 : Heap) (locs1 : List Loc) (I1 J1 : zxI), zl2 D cA shX ad I1 shM bd J1 s H1 locs1 → zR I1 J1 → W p l e room_1 s m #[Value.ref b] below meth c H1 locs1 58 825 Q (F0 m 1264 ls [])) : W p l e room_1 s m #[Value.ref b] below meth c H locs 58 825 Q (F0 m 721 ls []) := by
  obtain ⟨hx, hb, hml, hown, hts, hX, hbl⟩ := C0
  have hbA : ¬ (fun q : Nat => s.heap.size ≤ q) b := Nat.not_le.mpr hbl
  obtain ⟨r, I1, J1, eX, eM, hR⟩ := zop_found h (xs (v + 1).toNatClampNeg) (xs (v + 2).toNatClampNeg) (xs (v + 3).toNatClampNeg) (xs (v + 4).toNatClampNeg)
  refine lv_aload_n hx hb dL_law_721 rfl (lv_at hl 1 rfl) ?_
  refine lv_aload_n hx hb dL_law_722 rfl (lv_at hl 0 rfl) ?_
  refine lv_iload_n hx hb dL_law_723 rfl (lv_at hl 3 rfl) ?_
  refine lv_iconst (v := (1 : Int32)) hx hb dL_law_724 (by decide) ?_
  refine lv_iadd hx hb dL_law_725 ?_
  refine va_sld hx hb hX hbl hbA hG.2.2.2.2 h1 dL_law_726 ?_
  refine lv_aload_n hx hb dL_law_727 rfl (lv_at hl 0 rfl) ?_
  refine lv_iload_n hx hb dL_law_728 rfl (lv_at hl 3 rfl) ?_
  refine lv_iconst (v := (2 : Int32)) hx hb dL_law_729 (by decide) ?_
  refine lv_iadd hx hb dL_law_730 ?_
  refine va_sld hx hb hX hbl hbA hG.2.2.2.2 h2 dL_law_731 ?_
  refine lv_aload_n hx hb dL_law_732 rfl (lv_at hl 0 rfl) ?_
  refine lv_iload_n hx hb dL_law_733 rfl (lv_at hl 3 rfl) ?_
  refine lv_iconst (v := (3 : Int32)) hx hb dL_law_734 (by decide) ?_
  refine lv_iadd hx hb dL_law_735 ?_
  refine va_sld hx hb hX hbl hbA hG.2.2.2.2 h3 dL_law_736 ?_
  refine lv_aload_n hx hb dL_law_737 rfl (lv_at hl 0 rfl) ?_
  refine lv_iload_n hx hb dL_law_738 rfl (lv_at hl 3 rfl) ?_
  refine lv_iconst (v := (4 : Int32)) hx hb dL_law_739 (by decide) ?_
  refine lv_iadd hx hb dL_law_740 ?_
  refine va_sld hx hb hX hbl hbA hG.2.2.2.2 h4 dL_law_741 ?_
  refine zl_calli (va_runV (As := [.int (xs (v + 1).toNatClampNeg), .int (xs (v + 2).toNatClampNeg), .int (xs (v + 3).toNatClampNeg), .int (xs (v + 4).toNatClampNeg)]) (rest := []) ⟨hx, hb, hml, hown, hts⟩ (mX6_found l D ad cA (xs (v + 1).toNatClampNeg) (xs (v + 2).toNatClampNeg) (xs (v + 3).toNatClampNeg) (xs (v + 4).toNatClampNeg) I r I1 eX _) (cwV 4 hts gL_law_X6_found rfl rfl rfl hd_X6_found ⟨Nat.le_of_ble_eq_true rfl, Nat.le_of_ble_eq_true rfl⟩) (zl_preV hG shX_0 vc_6) rfl rfl hl.1 rfl (lv_room (Nat.le_of_ble_eq_true rfl)) dL_law_742 ⟨Nat.le_of_ble_eq_true rfl, Nat.le_of_ble_eq_true rfl⟩) hG (fun H locs hG => ?_)
  refine lv_aload_n hx hb dL_law_745 rfl (lv_at hl 2 rfl) ?_
  refine lv_aload_n hx hb dL_law_746 rfl (lv_at hl 0 rfl) ?_
  refine lv_iload_n hx hb dL_law_747 rfl (lv_at hl 3 rfl) ?_
  refine lv_iconst (v := (1 : Int32)) hx hb dL_law_748 (by decide) ?_
  refine lv_iadd hx hb dL_law_749 ?_
  refine va_sld hx hb hX hbl hbA hG.2.2.2.2 h1 dL_law_750 ?_
  refine lv_aload_n hx hb dL_law_751 rfl (lv_at hl 0 rfl) ?_
  refine lv_iload_n hx hb dL_law_752 rfl (lv_at hl 3 rfl) ?_
  refine lv_iconst (v := (2 : Int32)) hx hb dL_law_753 (by decide) ?_
  refine lv_iadd hx hb dL_law_754 ?_
  refine va_sld hx hb hX hbl hbA hG.2.2.2.2 h2 dL_law_755 ?_
  refine lv_aload_n hx hb dL_law_756 rfl (lv_at hl 0 rfl) ?_
  refine lv_iload_n hx hb dL_law_757 rfl (lv_at hl 3 rfl) ?_
  refine lv_iconst (v := (3 : Int32)) hx hb dL_law_758 (by decide) ?_
  refine lv_iadd hx hb dL_law_759 ?_
  refine va_sld hx hb hX hbl hbA hG.2.2.2.2 h3 dL_law_760 ?_
  refine lv_aload_n hx hb dL_law_761 rfl (lv_at hl 0 rfl) ?_
  refine lv_iload_n hx hb dL_law_762 rfl (lv_at hl 3 rfl) ?_
  refine lv_iconst (v := (4 : Int32)) hx hb dL_law_763 (by decide) ?_
  refine lv_iadd hx hb dL_law_764 ?_
  refine va_sld hx hb hX hbl hbA hG.2.2.2.2 h4 dL_law_765 ?_
  refine zl_calli (va_runV (As := [.int (xs (v + 1).toNatClampNeg), .int (xs (v + 2).toNatClampNeg), .int (xs (v + 3).toNatClampNeg), .int (xs (v + 4).toNatClampNeg)]) (rest := [.int r]) ⟨hx, hb, hml, hown, hts⟩ (mX7_found l D bd cA (xs (v + 1).toNatClampNeg) (xs (v + 2).toNatClampNeg) (xs (v + 3).toNatClampNeg) (xs (v + 4).toNatClampNeg) J r J1 eM _) (cwV 4 hts gL_law_X7_found rfl rfl rfl hd_X7_found ⟨Nat.le_of_ble_eq_true rfl, Nat.le_of_ble_eq_true rfl⟩) (zl_preV (zl2_swap hG) shM_0 vc_7) rfl rfl hl.1 rfl (lv_room (Nat.le_of_ble_eq_true rfl)) dL_law_766 ⟨Nat.le_of_ble_eq_true rfl, Nat.le_of_ble_eq_true rfl⟩) (zl2_swap hG) (fun H locs hG => ?_)
  refine lv_icmp_eq (tgt := 1264) hx hb dL_law_769 (by decide) (fun _ => ?_) (fun z => absurd rfl z)
  exact kk _ _ _ _ (zl2_swap hG) hR
