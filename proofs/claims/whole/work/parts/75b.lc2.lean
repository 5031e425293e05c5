set_option maxRecDepth 100000 in
set_option maxHeartbeats 4000000 in
theorem lc_score {p : Program} {l : Launch} {e : Env} {s : State} {m : MethodId} {below : List Frame} {meth : Method} {c : Code} {b L : Nat} {xs : Nat → Int32} {D : va_G} {kc : Nat → ClassId} {ax am : Nat → Nat} (Q0 : LCtx p s m meth c b L xs D kc ax am) {i : Nat} (hi4 : i + 4 ≤ L) {H : Heap} {locs : List Loc} {ls : Array Slot} (hI : LI D kc s ax am H locs) (hl : lv_has ls 4 [(0, .ref b), (1, .ref (ax 0)), (2, .ref (am 0)), (3, .int (nI i))]) (kk : ∀ (H1 : Heap) (locs1 : List Loc), LI D kc s ax am H1 locs1 → W p l e room_1 s m #[Value.ref b] below meth c H1 locs1 134 1984 (lw_Z below #[Value.ref b] s) (F0 m 746 ls [])) : W p l e room_1 s m #[Value.ref b] below meth c H locs 134 1984 (lw_Z below #[Value.ref b] s) (F0 m 470 ls []) := by
  obtain ⟨C0, CX1, CX2, hap, hZ, hL⟩ := Q0
  obtain ⟨hx, hb, hr, hml, hown, hts, hX, hbl, hlocks, hgv⟩ := C0
  have hbA : ¬ AL s b := Nat.not_le.mpr hbl
  have hap2 : ∀ i j, i < 9 → j < 125 → am i ≠ ax j := fun i j h1 h2 q => hap j i h2 h1 q.symm
  obtain ⟨cx, cm, σ, hn, hh, T, ch, hPx, hPm, hS, hXA, hMA, hg, hgh⟩ := hI
  obtain ⟨fs, hm0⟩ := hMA.c0
  have hin1 : vp_in (nI i + 1) L := by rw [show nI i + 1 = nI (i + 1) from mI_add i 1]; exact vp_in_nI (by omega) (by omega)
  have hin2 : vp_in (nI i + 2) L := by rw [show nI i + 2 = nI (i + 2) from mI_add i 2]; exact vp_in_nI (by omega) (by omega)
  refine lv_aload_n hx hb dL_law_470 rfl (lv_at hl 1 rfl) ?_
  refine lv_aload_n hx hb dL_law_471 rfl (lv_at hl 0 rfl) ?_
  refine lv_iload_n hx hb dL_law_472 rfl (lv_at hl 3 rfl) ?_
  refine lv_iconst (v := 1) hx hb dL_law_473 (by decide) ?_
  refine lv_iadd hx hb dL_law_474 ?_
  refine va_sld hx hb hX hbl hbA hS hin1 dL_law_475 ?_
  refine lv_aload_n hx hb dL_law_476 rfl (lv_at hl 0 rfl) ?_
  refine lv_iload_n hx hb dL_law_477 rfl (lv_at hl 3 rfl) ?_
  refine lv_iconst (v := 2) hx hb dL_law_478 (by decide) ?_
  refine lv_iadd hx hb dL_law_479 ?_
  refine va_sld hx hb hX hbl hbA hS hin2 dL_law_480 ?_
  refine lw_call CX1 hap [.int (xs (nI i + 1).toNatClampNeg), .int (xs (nI i + 2).toNatClampNeg)] 6 (by omega) hXA.1 rfl (c_X6_score l D kc 125 ax cx σ hn hh T ch (xs (nI i + 1).toNatClampNeg) (xs (nI i + 2).toNatClampNeg) hXA hg.1 (Nat.le_refl 125)) (cwV 2 CX1.2.2.2.2.1 gL_law_X6_score rfl rfl rfl (by decide +kernel) ⟨(Nat.le_of_ble_eq_true rfl), (Nat.le_of_ble_eq_true rfl)⟩) rfl rfl (Nat.le_of_ble_eq_true rfl) (Nat.le_of_ble_eq_true rfl) (Nat.le_of_ble_eq_true rfl) dL_law_481 hPx hPm hS hl (fun r1 cx1 H1 locs1 hp1 hPx1 hPm1 hS1 => ?_)
  obtain ⟨rfl, rfl⟩ := hp1
  refine lv_aload_n hx hb dL_law_484 rfl (lv_at hl 2 rfl) ?_
  refine lv_aload_n hx hb dL_law_485 rfl (lv_at hl 0 rfl) ?_
  refine lv_iload_n hx hb dL_law_486 rfl (lv_at hl 3 rfl) ?_
  refine lv_iconst (v := 1) hx hb dL_law_487 (by decide) ?_
  refine lv_iadd hx hb dL_law_488 ?_
  refine va_sld hx hb hX hbl hbA hS1 hin1 dL_law_489 ?_
  refine lv_aload_n hx hb dL_law_490 rfl (lv_at hl 0 rfl) ?_
  refine lv_iload_n hx hb dL_law_491 rfl (lv_at hl 3 rfl) ?_
  refine lv_iconst (v := 2) hx hb dL_law_492 (by decide) ?_
  refine lv_iadd hx hb dL_law_493 ?_
  refine va_sld hx hb hX hbl hbA hS1 hin2 dL_law_494 ?_
  refine lw_call CX2 hap2 [.int (xs (nI i + 1).toNatClampNeg), .int (xs (nI i + 2).toNatClampNeg)] 7 (by omega) hm0 rfl (c_X7_score l D kc 9 am cm σ hn hh T ch (xs (nI i + 1).toNatClampNeg) (xs (nI i + 2).toNatClampNeg) hMA hg.1 (Nat.le_refl 9)) (cwV 2 CX2.2.2.2.2.1 gL_law_X7_score rfl rfl rfl (by decide +kernel) ⟨(Nat.le_of_ble_eq_true rfl), (Nat.le_of_ble_eq_true rfl)⟩) rfl rfl (Nat.le_of_ble_eq_true rfl) (Nat.le_of_ble_eq_true rfl) (Nat.le_of_ble_eq_true rfl) dL_law_495 hPm1 hPx1 hS1 hl (fun r2 cm2 H2 locs2 hp2 hPm2 hPx2 hS2 => ?_)
  obtain ⟨rfl, rfl⟩ := hp2
  refine lv_icmp_eq (tgt := 746) hx hb dL_law_498 (by decide) (fun _ => ?_) (fun hc => absurd rfl hc)
  exact kk _ _ ⟨_, _, _, _, _, _, _, hPx2, hPm2, hS2, hXA, hMA, hg, hgh⟩
set_option maxRecDepth 100000 in
set_option maxHeartbeats 4000000 in
theorem lc_anchors {p : Program} {l : Launch} {e : Env} {s : State} {m : MethodId} {below : List Frame} {meth : Method} {c : Code} {b L : Nat} {xs : Nat → Int32} {D : va_G} {kc : Nat → ClassId} {ax am : Nat → Nat} (Q0 : LCtx p s m meth c b L xs D kc ax am) {i : Nat} (hi4 : i + 4 ≤ L) {H : Heap} {locs : List Loc} {ls : Array Slot} (hI : LI D kc s ax am H locs) (hl : lv_has ls 4 [(0, .ref b), (1, .ref (ax 0)), (2, .ref (am 0)), (3, .int (nI i))]) (kk : ∀ (H1 : Heap) (locs1 : List Loc), LI D kc s ax am H1 locs1 → W p l e room_1 s m #[Value.ref b] below meth c H1 locs1 134 1984 (lw_Z below #[Value.ref b] s) (F0 m 746 ls [])) : W p l e room_1 s m #[Value.ref b] below meth c H locs 134 1984 (lw_Z below #[Value.ref b] s) (F0 m 503 ls []) := by
  obtain ⟨C0, CX1, CX2, hap, hZ, hL⟩ := Q0
  obtain ⟨hx, hb, hr, hml, hown, hts, hX, hbl, hlocks, hgv⟩ := C0
  have hbA : ¬ AL s b := Nat.not_le.mpr hbl
  have hap2 : ∀ i j, i < 9 → j < 125 → am i ≠ ax j := fun i j h1 h2 q => hap j i h2 h1 q.symm
  obtain ⟨cx, cm, σ, hn, hh, T, ch, hPx, hPm, hS, hXA, hMA, hg, hgh⟩ := hI
  obtain ⟨fs, hm0⟩ := hMA.c0
  have hin1 : vp_in (nI i + 1) L := by rw [show nI i + 1 = nI (i + 1) from mI_add i 1]; exact vp_in_nI (by omega) (by omega)
  refine lv_aload_n hx hb dL_law_503 rfl (lv_at hl 1 rfl) ?_
  refine lv_aload_n hx hb dL_law_504 rfl (lv_at hl 0 rfl) ?_
  refine lv_iload_n hx hb dL_law_505 rfl (lv_at hl 3 rfl) ?_
  refine lv_iconst (v := 1) hx hb dL_law_506 (by decide) ?_
  refine lv_iadd hx hb dL_law_507 ?_
  refine va_sld hx hb hX hbl hbA hS hin1 dL_law_508 ?_
  refine lw_call CX1 hap [.int (xs (nI i + 1).toNatClampNeg)] 6 (by omega) hXA.1 rfl (c_X6_anchors l D kc 125 ax cx σ hn hh T ch (xs (nI i + 1).toNatClampNeg) hXA hg.1 (Nat.le_refl 125)) (cwV 1 CX1.2.2.2.2.1 gL_law_X6_anchors rfl rfl rfl (by decide +kernel) ⟨(Nat.le_of_ble_eq_true rfl), (Nat.le_of_ble_eq_true rfl)⟩) rfl rfl (Nat.le_of_ble_eq_true rfl) (Nat.le_of_ble_eq_true rfl) (Nat.le_of_ble_eq_true rfl) dL_law_509 hPx hPm hS hl (fun r1 cx1 H1 locs1 hp1 hPx1 hPm1 hS1 => ?_)
  obtain ⟨rfl, rfl⟩ := hp1
  refine lv_aload_n hx hb dL_law_512 rfl (lv_at hl 2 rfl) ?_
  refine lv_aload_n hx hb dL_law_513 rfl (lv_at hl 0 rfl) ?_
  refine lv_iload_n hx hb dL_law_514 rfl (lv_at hl 3 rfl) ?_
  refine lv_iconst (v := 1) hx hb dL_law_515 (by decide) ?_
  refine lv_iadd hx hb dL_law_516 ?_
  refine va_sld hx hb hX hbl hbA hS1 hin1 dL_law_517 ?_
  refine lw_call CX2 hap2 [.int (xs (nI i + 1).toNatClampNeg)] 7 (by omega) hm0 rfl (c_X7_anchors l D kc 9 am cm σ hn hh T ch (xs (nI i + 1).toNatClampNeg) hMA hg.1 (Nat.le_refl 9)) (cwV 1 CX2.2.2.2.2.1 gL_law_X7_anchors rfl rfl rfl (by decide +kernel) ⟨(Nat.le_of_ble_eq_true rfl), (Nat.le_of_ble_eq_true rfl)⟩) rfl rfl (Nat.le_of_ble_eq_true rfl) (Nat.le_of_ble_eq_true rfl) (Nat.le_of_ble_eq_true rfl) dL_law_518 hPm1 hPx1 hS1 hl (fun r2 cm2 H2 locs2 hp2 hPm2 hPx2 hS2 => ?_)
  obtain ⟨rfl, rfl⟩ := hp2
  refine lv_icmp_eq (tgt := 746) hx hb dL_law_521 (by decide) (fun _ => ?_) (fun hc => absurd rfl hc)
  exact kk _ _ ⟨_, _, _, _, _, _, _, hPx2, hPm2, hS2, hXA, hMA, hg, hgh⟩
set_option maxRecDepth 100000 in
set_option maxHeartbeats 4000000 in
theorem lc_blockOf {p : Program} {l : Launch} {e : Env} {s : State} {m : MethodId} {below : List Frame} {meth : Method} {c : Code} {b L : Nat} {xs : Nat → Int32} {D : va_G} {kc : Nat → ClassId} {ax am : Nat → Nat} (Q0 : LCtx p s m meth c b L xs D kc ax am) {i : Nat} (hi4 : i + 4 ≤ L) {H : Heap} {locs : List Loc} {ls : Array Slot} (hI : LI D kc s ax am H locs) (hl : lv_has ls 4 [(0, .ref b), (1, .ref (ax 0)), (2, .ref (am 0)), (3, .int (nI i))]) (kk : ∀ (H1 : Heap) (locs1 : List Loc), LI D kc s ax am H1 locs1 → W p l e room_1 s m #[Value.ref b] below meth c H1 locs1 134 1984 (lw_Z below #[Value.ref b] s) (F0 m 746 ls [])) : W p l e room_1 s m #[Value.ref b] below meth c H locs 134 1984 (lw_Z below #[Value.ref b] s) (F0 m 526 ls []) := by
  obtain ⟨C0, CX1, CX2, hap, hZ, hL⟩ := Q0
  obtain ⟨hx, hb, hr, hml, hown, hts, hX, hbl, hlocks, hgv⟩ := C0
  have hbA : ¬ AL s b := Nat.not_le.mpr hbl
  have hap2 : ∀ i j, i < 9 → j < 125 → am i ≠ ax j := fun i j h1 h2 q => hap j i h2 h1 q.symm
  obtain ⟨cx, cm, σ, hn, hh, T, ch, hPx, hPm, hS, hXA, hMA, hg, hgh⟩ := hI
  obtain ⟨fs, hm0⟩ := hMA.c0
  have hin1 : vp_in (nI i + 1) L := by rw [show nI i + 1 = nI (i + 1) from mI_add i 1]; exact vp_in_nI (by omega) (by omega)
  have hin2 : vp_in (nI i + 2) L := by rw [show nI i + 2 = nI (i + 2) from mI_add i 2]; exact vp_in_nI (by omega) (by omega)
  refine lv_aload_n hx hb dL_law_526 rfl (lv_at hl 1 rfl) ?_
  refine lv_aload_n hx hb dL_law_527 rfl (lv_at hl 0 rfl) ?_
  refine lv_iload_n hx hb dL_law_528 rfl (lv_at hl 3 rfl) ?_
  refine lv_iconst (v := 1) hx hb dL_law_529 (by decide) ?_
  refine lv_iadd hx hb dL_law_530 ?_
  refine va_sld hx hb hX hbl hbA hS hin1 dL_law_531 ?_
  refine lv_aload_n hx hb dL_law_532 rfl (lv_at hl 0 rfl) ?_
  refine lv_iload_n hx hb dL_law_533 rfl (lv_at hl 3 rfl) ?_
  refine lv_iconst (v := 2) hx hb dL_law_534 (by decide) ?_
  refine lv_iadd hx hb dL_law_535 ?_
  refine va_sld hx hb hX hbl hbA hS hin2 dL_law_536 ?_
  refine lw_call CX1 hap [.int (xs (nI i + 1).toNatClampNeg), .int (xs (nI i + 2).toNatClampNeg)] 6 (by omega) hXA.1 rfl (c_X6_blockOf l D kc 125 ax cx σ hn hh T ch (xs (nI i + 1).toNatClampNeg) (xs (nI i + 2).toNatClampNeg) hXA hg.1 (Nat.le_refl 125)) (cwV 2 CX1.2.2.2.2.1 gL_law_X6_blockOf rfl rfl rfl (by decide +kernel) ⟨(Nat.le_of_ble_eq_true rfl), (Nat.le_of_ble_eq_true rfl)⟩) rfl rfl (Nat.le_of_ble_eq_true rfl) (Nat.le_of_ble_eq_true rfl) (Nat.le_of_ble_eq_true rfl) dL_law_537 hPx hPm hS hl (fun r1 cx1 H1 locs1 hp1 hPx1 hPm1 hS1 => ?_)
  obtain ⟨rfl, hx1⟩ := hp1
  refine lv_aload_n hx hb dL_law_540 rfl (lv_at hl 2 rfl) ?_
  refine lv_aload_n hx hb dL_law_541 rfl (lv_at hl 0 rfl) ?_
  refine lv_iload_n hx hb dL_law_542 rfl (lv_at hl 3 rfl) ?_
  refine lv_iconst (v := 1) hx hb dL_law_543 (by decide) ?_
  refine lv_iadd hx hb dL_law_544 ?_
  refine va_sld hx hb hX hbl hbA hS1 hin1 dL_law_545 ?_
  refine lv_aload_n hx hb dL_law_546 rfl (lv_at hl 0 rfl) ?_
  refine lv_iload_n hx hb dL_law_547 rfl (lv_at hl 3 rfl) ?_
  refine lv_iconst (v := 2) hx hb dL_law_548 (by decide) ?_
  refine lv_iadd hx hb dL_law_549 ?_
  refine va_sld hx hb hX hbl hbA hS1 hin2 dL_law_550 ?_
  refine lw_call CX2 hap2 [.int (xs (nI i + 1).toNatClampNeg), .int (xs (nI i + 2).toNatClampNeg)] 7 (by omega) hm0 rfl (c_X7_blockOf l D kc 9 am cm σ hn hh T ch (xs (nI i + 1).toNatClampNeg) (xs (nI i + 2).toNatClampNeg) hMA hg.1 (Nat.le_refl 9)) (cwV 2 CX2.2.2.2.2.1 gL_law_X7_blockOf rfl rfl rfl (by decide +kernel) ⟨(Nat.le_of_ble_eq_true rfl), (Nat.le_of_ble_eq_true rfl)⟩) rfl rfl (Nat.le_of_ble_eq_true rfl) (Nat.le_of_ble_eq_true rfl) (Nat.le_of_ble_eq_true rfl) dL_law_551 hPm1 hPx1 hS1 hl (fun r2 cm2 H2 locs2 hp2 hPm2 hPx2 hS2 => ?_)
  obtain ⟨rfl, hm2⟩ := hp2
  refine lv_icmp_eq (tgt := 746) hx hb dL_law_554 (by decide) (fun _ => ?_) (fun hc => absurd rfl hc)
  exact kk _ _ ⟨_, _, _, _, _, _, _, hPx2, hPm2, hS2, hx1, hm2, hg, hgh⟩
set_option maxRecDepth 100000 in
set_option maxHeartbeats 4000000 in
theorem lc_wouldTake {p : Program} {l : Launch} {e : Env} {s : State} {m : MethodId} {below : List Frame} {meth : Method} {c : Code} {b L : Nat} {xs : Nat → Int32} {D : va_G} {kc : Nat → ClassId} {ax am : Nat → Nat} (Q0 : LCtx p s m meth c b L xs D kc ax am) {i : Nat} (hi4 : i + 4 ≤ L) {H : Heap} {locs : List Loc} {ls : Array Slot} (hI : LI D kc s ax am H locs) (hl : lv_has ls 4 [(0, .ref b), (1, .ref (ax 0)), (2, .ref (am 0)), (3, .int (nI i))]) (kk : ∀ (H1 : Heap) (locs1 : List Loc), LI D kc s ax am H1 locs1 → W p l e room_1 s m #[Value.ref b] below meth c H1 locs1 134 1984 (lw_Z below #[Value.ref b] s) (F0 m 746 ls [])) : W p l e room_1 s m #[Value.ref b] below meth c H locs 134 1984 (lw_Z below #[Value.ref b] s) (F0 m 559 ls []) := by
  obtain ⟨C0, CX1, CX2, hap, hZ, hL⟩ := Q0
  obtain ⟨hx, hb, hr, hml, hown, hts, hX, hbl, hlocks, hgv⟩ := C0
  have hbA : ¬ AL s b := Nat.not_le.mpr hbl
  have hap2 : ∀ i j, i < 9 → j < 125 → am i ≠ ax j := fun i j h1 h2 q => hap j i h2 h1 q.symm
  obtain ⟨cx, cm, σ, hn, hh, T, ch, hPx, hPm, hS, hXA, hMA, hg, hgh⟩ := hI
  obtain ⟨fs, hm0⟩ := hMA.c0
  have hin1 : vp_in (nI i + 1) L := by rw [show nI i + 1 = nI (i + 1) from mI_add i 1]; exact vp_in_nI (by omega) (by omega)
  have hin2 : vp_in (nI i + 2) L := by rw [show nI i + 2 = nI (i + 2) from mI_add i 2]; exact vp_in_nI (by omega) (by omega)
  refine lv_aload_n hx hb dL_law_559 rfl (lv_at hl 1 rfl) ?_
  refine lv_aload_n hx hb dL_law_560 rfl (lv_at hl 0 rfl) ?_
  refine lv_iload_n hx hb dL_law_561 rfl (lv_at hl 3 rfl) ?_
  refine lv_iconst (v := 1) hx hb dL_law_562 (by decide) ?_
  refine lv_iadd hx hb dL_law_563 ?_
  refine va_sld hx hb hX hbl hbA hS hin1 dL_law_564 ?_
  refine lv_aload_n hx hb dL_law_565 rfl (lv_at hl 0 rfl) ?_
  refine lv_iload_n hx hb dL_law_566 rfl (lv_at hl 3 rfl) ?_
  refine lv_iconst (v := 2) hx hb dL_law_567 (by decide) ?_
  refine lv_iadd hx hb dL_law_568 ?_
  refine va_sld hx hb hX hbl hbA hS hin2 dL_law_569 ?_
  refine lw_call CX1 hap [.int (xs (nI i + 1).toNatClampNeg), .int (xs (nI i + 2).toNatClampNeg)] 6 (by omega) hXA.1 rfl (c_X6_wouldTake l D kc 125 ax cx σ hn hh T ch (xs (nI i + 1).toNatClampNeg) (xs (nI i + 2).toNatClampNeg) hXA hg.1 (Nat.le_refl 125)) (cwV 2 CX1.2.2.2.2.1 gL_law_X6_wouldTake rfl rfl rfl (by decide +kernel) ⟨(Nat.le_of_ble_eq_true rfl), (Nat.le_of_ble_eq_true rfl)⟩) rfl rfl (Nat.le_of_ble_eq_true rfl) (Nat.le_of_ble_eq_true rfl) (Nat.le_of_ble_eq_true rfl) dL_law_570 hPx hPm hS hl (fun r1 cx1 H1 locs1 hp1 hPx1 hPm1 hS1 => ?_)
  obtain ⟨rfl, hx1⟩ := hp1
  refine lv_aload_n hx hb dL_law_573 rfl (lv_at hl 2 rfl) ?_
  refine lv_aload_n hx hb dL_law_574 rfl (lv_at hl 0 rfl) ?_
  refine lv_iload_n hx hb dL_law_575 rfl (lv_at hl 3 rfl) ?_
  refine lv_iconst (v := 1) hx hb dL_law_576 (by decide) ?_
  refine lv_iadd hx hb dL_law_577 ?_
  refine va_sld hx hb hX hbl hbA hS1 hin1 dL_law_578 ?_
  refine lv_aload_n hx hb dL_law_579 rfl (lv_at hl 0 rfl) ?_
  refine lv_iload_n hx hb dL_law_580 rfl (lv_at hl 3 rfl) ?_
  refine lv_iconst (v := 2) hx hb dL_law_581 (by decide) ?_
  refine lv_iadd hx hb dL_law_582 ?_
  refine va_sld hx hb hX hbl hbA hS1 hin2 dL_law_583 ?_
  refine lw_call CX2 hap2 [.int (xs (nI i + 1).toNatClampNeg), .int (xs (nI i + 2).toNatClampNeg)] 7 (by omega) hm0 rfl (wouldTakeM (l := l) (D := D) σ hn hh T ch (xs (nI i + 1).toNatClampNeg) (xs (nI i + 2).toNatClampNeg) hMA hg.1) (cwV 2 CX2.2.2.2.2.1 gL_law_X7_wouldTake rfl rfl rfl (by decide +kernel) ⟨(Nat.le_of_ble_eq_true rfl), (Nat.le_of_ble_eq_true rfl)⟩) rfl rfl (Nat.le_of_ble_eq_true rfl) (Nat.le_of_ble_eq_true rfl) (Nat.le_of_ble_eq_true rfl) dL_law_584 hPm1 hPx1 hS1 hl (fun r2 cm2 H2 locs2 hp2 hPm2 hPx2 hS2 => ?_)
  obtain ⟨rfl, hm2⟩ := hp2
  refine lv_icmp_eq (tgt := 746) hx hb dL_law_587 (by decide) (fun _ => ?_) (fun hc => absurd rfl hc)
  exact kk _ _ ⟨_, _, _, _, _, _, _, hPx2, hPm2, hS2, hx1, hm2, hg, hgh⟩
set_option maxRecDepth 100000 in
set_option maxHeartbeats 4000000 in
theorem lc_safest {p : Program} {l : Launch} {e : Env} {s : State} {m : MethodId} {below : List Frame} {meth : Method} {c : Code} {b L : Nat} {xs : Nat → Int32} {D : va_G} {kc : Nat → ClassId} {ax am : Nat → Nat} (Q0 : LCtx p s m meth c b L xs D kc ax am) {i : Nat} (hi4 : i + 4 ≤ L) {H : Heap} {locs : List Loc} {ls : Array Slot} (hI : LI D kc s ax am H locs) (hl : lv_has ls 4 [(0, .ref b), (1, .ref (ax 0)), (2, .ref (am 0)), (3, .int (nI i))]) (kk : ∀ (H1 : Heap) (locs1 : List Loc), LI D kc s ax am H1 locs1 → W p l e room_1 s m #[Value.ref b] below meth c H1 locs1 134 1984 (lw_Z below #[Value.ref b] s) (F0 m 746 ls [])) : W p l e room_1 s m #[Value.ref b] below meth c H locs 134 1984 (lw_Z below #[Value.ref b] s) (F0 m 592 ls []) := by
  obtain ⟨C0, CX1, CX2, hap, hZ, hL⟩ := Q0
  obtain ⟨hx, hb, hr, hml, hown, hts, hX, hbl, hlocks, hgv⟩ := C0
  have hbA : ¬ AL s b := Nat.not_le.mpr hbl
  have hap2 : ∀ i j, i < 9 → j < 125 → am i ≠ ax j := fun i j h1 h2 q => hap j i h2 h1 q.symm
  obtain ⟨cx, cm, σ, hn, hh, T, ch, hPx, hPm, hS, hXA, hMA, hg, hgh⟩ := hI
  obtain ⟨fs, hm0⟩ := hMA.c0
  have hin1 : vp_in (nI i + 1) L := by rw [show nI i + 1 = nI (i + 1) from mI_add i 1]; exact vp_in_nI (by omega) (by omega)
  refine lv_aload_n hx hb dL_law_592 rfl (lv_at hl 1 rfl) ?_
  refine lv_aload_n hx hb dL_law_593 rfl (lv_at hl 0 rfl) ?_
  refine lv_iload_n hx hb dL_law_594 rfl (lv_at hl 3 rfl) ?_
  refine lv_iconst (v := 1) hx hb dL_law_595 (by decide) ?_
  refine lv_iadd hx hb dL_law_596 ?_
  refine va_sld hx hb hX hbl hbA hS hin1 dL_law_597 ?_
  refine lw_call CX1 hap [.int (xs (nI i + 1).toNatClampNeg)] 6 (by omega) hXA.1 rfl (c_X6_safest l D kc 125 ax cx σ hn hh T ch (xs (nI i + 1).toNatClampNeg) hXA hg.1 (Nat.le_refl 125)) (cwV 1 CX1.2.2.2.2.1 gL_law_X6_safest rfl rfl rfl (by decide +kernel) ⟨(Nat.le_of_ble_eq_true rfl), (Nat.le_of_ble_eq_true rfl)⟩) rfl rfl (Nat.le_of_ble_eq_true rfl) (Nat.le_of_ble_eq_true rfl) (Nat.le_of_ble_eq_true rfl) dL_law_598 hPx hPm hS hl (fun r1 cx1 H1 locs1 hp1 hPx1 hPm1 hS1 => ?_)
  obtain ⟨rfl, hx1⟩ := hp1
  refine lv_aload_n hx hb dL_law_601 rfl (lv_at hl 2 rfl) ?_
  refine lv_aload_n hx hb dL_law_602 rfl (lv_at hl 0 rfl) ?_
  refine lv_iload_n hx hb dL_law_603 rfl (lv_at hl 3 rfl) ?_
  refine lv_iconst (v := 1) hx hb dL_law_604 (by decide) ?_
  refine lv_iadd hx hb dL_law_605 ?_
  refine va_sld hx hb hX hbl hbA hS1 hin1 dL_law_606 ?_
  refine lw_call CX2 hap2 [.int (xs (nI i + 1).toNatClampNeg)] 7 (by omega) hm0 rfl (c_X7_safest l D kc 9 am cm σ hn hh T ch (xs (nI i + 1).toNatClampNeg) hMA hg.1 (Nat.le_refl 9)) (cwV 1 CX2.2.2.2.2.1 gL_law_X7_safest rfl rfl rfl (by decide +kernel) ⟨(Nat.le_of_ble_eq_true rfl), (Nat.le_of_ble_eq_true rfl)⟩) rfl rfl (Nat.le_of_ble_eq_true rfl) (Nat.le_of_ble_eq_true rfl) (Nat.le_of_ble_eq_true rfl) dL_law_607 hPm1 hPx1 hS1 hl (fun r2 cm2 H2 locs2 hp2 hPm2 hPx2 hS2 => ?_)
  obtain ⟨rfl, hm2⟩ := hp2
  refine lv_icmp_eq (tgt := 746) hx hb dL_law_610 (by decide) (fun _ => ?_) (fun hc => absurd rfl hc)
  exact kk _ _ ⟨_, _, _, _, _, _, _, hPx2, hPm2, hS2, hx1, hm2, hg, hgh⟩
set_option maxRecDepth 100000 in
set_option maxHeartbeats 4000000 in
theorem lc_clearest {p : Program} {l : Launch} {e : Env} {s : State} {m : MethodId} {below : List Frame} {meth : Method} {c : Code} {b L : Nat} {xs : Nat → Int32} {D : va_G} {kc : Nat → ClassId} {ax am : Nat → Nat} (Q0 : LCtx p s m meth c b L xs D kc ax am) {i : Nat} (hi4 : i + 4 ≤ L) {H : Heap} {locs : List Loc} {ls : Array Slot} (hI : LI D kc s ax am H locs) (hl : lv_has ls 4 [(0, .ref b), (1, .ref (ax 0)), (2, .ref (am 0)), (3, .int (nI i))]) (kk : ∀ (H1 : Heap) (locs1 : List Loc), LI D kc s ax am H1 locs1 → W p l e room_1 s m #[Value.ref b] below meth c H1 locs1 134 1984 (lw_Z below #[Value.ref b] s) (F0 m 746 ls [])) : W p l e room_1 s m #[Value.ref b] below meth c H locs 134 1984 (lw_Z below #[Value.ref b] s) (F0 m 615 ls []) := by
  obtain ⟨C0, CX1, CX2, hap, hZ, hL⟩ := Q0
  obtain ⟨hx, hb, hr, hml, hown, hts, hX, hbl, hlocks, hgv⟩ := C0
  have hbA : ¬ AL s b := Nat.not_le.mpr hbl
  have hap2 : ∀ i j, i < 9 → j < 125 → am i ≠ ax j := fun i j h1 h2 q => hap j i h2 h1 q.symm
  obtain ⟨cx, cm, σ, hn, hh, T, ch, hPx, hPm, hS, hXA, hMA, hg, hgh⟩ := hI
  obtain ⟨fs, hm0⟩ := hMA.c0
  have hin1 : vp_in (nI i + 1) L := by rw [show nI i + 1 = nI (i + 1) from mI_add i 1]; exact vp_in_nI (by omega) (by omega)
  refine lv_aload_n hx hb dL_law_615 rfl (lv_at hl 1 rfl) ?_
  refine lv_aload_n hx hb dL_law_616 rfl (lv_at hl 0 rfl) ?_
  refine lv_iload_n hx hb dL_law_617 rfl (lv_at hl 3 rfl) ?_
  refine lv_iconst (v := 1) hx hb dL_law_618 (by decide) ?_
  refine lv_iadd hx hb dL_law_619 ?_
  refine va_sld hx hb hX hbl hbA hS hin1 dL_law_620 ?_
  refine lw_call CX1 hap [.int (xs (nI i + 1).toNatClampNeg)] 6 (by omega) hXA.1 rfl (c_X6_clearest l D kc 125 ax cx σ hn hh T ch (xs (nI i + 1).toNatClampNeg) hXA hg.1 (Nat.le_refl 125)) (cwV 1 CX1.2.2.2.2.1 gL_law_X6_clearest rfl rfl rfl (by decide +kernel) ⟨(Nat.le_of_ble_eq_true rfl), (Nat.le_of_ble_eq_true rfl)⟩) rfl rfl (Nat.le_of_ble_eq_true rfl) (Nat.le_of_ble_eq_true rfl) (Nat.le_of_ble_eq_true rfl) dL_law_621 hPx hPm hS hl (fun r1 cx1 H1 locs1 hp1 hPx1 hPm1 hS1 => ?_)
  obtain ⟨rfl, hx1⟩ := hp1
  refine lv_aload_n hx hb dL_law_624 rfl (lv_at hl 2 rfl) ?_
  refine lv_aload_n hx hb dL_law_625 rfl (lv_at hl 0 rfl) ?_
  refine lv_iload_n hx hb dL_law_626 rfl (lv_at hl 3 rfl) ?_
  refine lv_iconst (v := 1) hx hb dL_law_627 (by decide) ?_
  refine lv_iadd hx hb dL_law_628 ?_
  refine va_sld hx hb hX hbl hbA hS1 hin1 dL_law_629 ?_
  refine lw_call CX2 hap2 [.int (xs (nI i + 1).toNatClampNeg)] 7 (by omega) hm0 rfl (c_X7_clearest l D kc 9 am cm σ hn hh T ch (xs (nI i + 1).toNatClampNeg) hMA hg.1 (Nat.le_refl 9)) (cwV 1 CX2.2.2.2.2.1 gL_law_X7_clearest rfl rfl rfl (by decide +kernel) ⟨(Nat.le_of_ble_eq_true rfl), (Nat.le_of_ble_eq_true rfl)⟩) rfl rfl (Nat.le_of_ble_eq_true rfl) (Nat.le_of_ble_eq_true rfl) (Nat.le_of_ble_eq_true rfl) dL_law_630 hPm1 hPx1 hS1 hl (fun r2 cm2 H2 locs2 hp2 hPm2 hPx2 hS2 => ?_)
  obtain ⟨rfl, rfl⟩ := hp2
  refine lv_icmp_eq (tgt := 746) hx hb dL_law_633 (by decide) (fun _ => ?_) (fun hc => absurd rfl hc)
  exact kk _ _ ⟨_, _, _, _, _, _, _, hPx2, hPm2, hS2, hx1, hMA, hg, hgh⟩
set_option maxRecDepth 100000 in
set_option maxHeartbeats 4000000 in
theorem lc_count {p : Program} {l : Launch} {e : Env} {s : State} {m : MethodId} {below : List Frame} {meth : Method} {c : Code} {b L : Nat} {xs : Nat → Int32} {D : va_G} {kc : Nat → ClassId} {ax am : Nat → Nat} (Q0 : LCtx p s m meth c b L xs D kc ax am) {i : Nat} (hi4 : i + 4 ≤ L) {H : Heap} {locs : List Loc} {ls : Array Slot} (hI : LI D kc s ax am H locs) (hl : lv_has ls 4 [(0, .ref b), (1, .ref (ax 0)), (2, .ref (am 0)), (3, .int (nI i))]) (kk : ∀ (H1 : Heap) (locs1 : List Loc), LI D kc s ax am H1 locs1 → W p l e room_1 s m #[Value.ref b] below meth c H1 locs1 134 1984 (lw_Z below #[Value.ref b] s) (F0 m 746 ls [])) : W p l e room_1 s m #[Value.ref b] below meth c H locs 134 1984 (lw_Z below #[Value.ref b] s) (F0 m 638 ls []) := by
  obtain ⟨C0, CX1, CX2, hap, hZ, hL⟩ := Q0
  obtain ⟨hx, hb, hr, hml, hown, hts, hX, hbl, hlocks, hgv⟩ := C0
  have hbA : ¬ AL s b := Nat.not_le.mpr hbl
  have hap2 : ∀ i j, i < 9 → j < 125 → am i ≠ ax j := fun i j h1 h2 q => hap j i h2 h1 q.symm
  obtain ⟨cx, cm, σ, hn, hh, T, ch, hPx, hPm, hS, hXA, hMA, hg, hgh⟩ := hI
  obtain ⟨fs, hm0⟩ := hMA.c0
  have hin1 : vp_in (nI i + 1) L := by rw [show nI i + 1 = nI (i + 1) from mI_add i 1]; exact vp_in_nI (by omega) (by omega)
  refine lv_aload_n hx hb dL_law_638 rfl (lv_at hl 1 rfl) ?_
  refine lv_aload_n hx hb dL_law_639 rfl (lv_at hl 0 rfl) ?_
  refine lv_iload_n hx hb dL_law_640 rfl (lv_at hl 3 rfl) ?_
  refine lv_iconst (v := 1) hx hb dL_law_641 (by decide) ?_
  refine lv_iadd hx hb dL_law_642 ?_
  refine va_sld hx hb hX hbl hbA hS hin1 dL_law_643 ?_
  refine lw_call CX1 hap [.int (xs (nI i + 1).toNatClampNeg)] 6 (by omega) hXA.1 rfl (c_X6_count l D kc 125 ax cx σ hn hh T ch (xs (nI i + 1).toNatClampNeg) hXA hg.1 (Nat.le_refl 125)) (cwV 1 CX1.2.2.2.2.1 gL_law_X6_count rfl rfl rfl (by decide +kernel) ⟨(Nat.le_of_ble_eq_true rfl), (Nat.le_of_ble_eq_true rfl)⟩) rfl rfl (Nat.le_of_ble_eq_true rfl) (Nat.le_of_ble_eq_true rfl) (Nat.le_of_ble_eq_true rfl) dL_law_644 hPx hPm hS hl (fun r1 cx1 H1 locs1 hp1 hPx1 hPm1 hS1 => ?_)
  obtain ⟨rfl, rfl⟩ := hp1
  refine lv_aload_n hx hb dL_law_647 rfl (lv_at hl 2 rfl) ?_
  refine lv_aload_n hx hb dL_law_648 rfl (lv_at hl 0 rfl) ?_
  refine lv_iload_n hx hb dL_law_649 rfl (lv_at hl 3 rfl) ?_
  refine lv_iconst (v := 1) hx hb dL_law_650 (by decide) ?_
  refine lv_iadd hx hb dL_law_651 ?_
  refine va_sld hx hb hX hbl hbA hS1 hin1 dL_law_652 ?_
  refine lw_call CX2 hap2 [.int (xs (nI i + 1).toNatClampNeg)] 7 (by omega) hm0 rfl (c_X7_count l D kc 9 am cm σ hn hh T ch (xs (nI i + 1).toNatClampNeg) hMA hg.1 (Nat.le_refl 9)) (cwV 1 CX2.2.2.2.2.1 gL_law_X7_count rfl rfl rfl (by decide +kernel) ⟨(Nat.le_of_ble_eq_true rfl), (Nat.le_of_ble_eq_true rfl)⟩) rfl rfl (Nat.le_of_ble_eq_true rfl) (Nat.le_of_ble_eq_true rfl) (Nat.le_of_ble_eq_true rfl) dL_law_653 hPm1 hPx1 hS1 hl (fun r2 cm2 H2 locs2 hp2 hPm2 hPx2 hS2 => ?_)
  obtain ⟨rfl, rfl⟩ := hp2
  refine lv_icmp_eq (tgt := 746) hx hb dL_law_656 (by decide) (fun _ => ?_) (fun hc => absurd rfl hc)
  exact kk _ _ ⟨_, _, _, _, _, _, _, hPx2, hPm2, hS2, hXA, hMA, hg, hgh⟩
set_option maxRecDepth 100000 in
set_option maxHeartbeats 4000000 in
theorem lc_undo {p : Program} {l : Launch} {e : Env} {s : State} {m : MethodId} {below : List Frame} {meth : Method} {c : Code} {b L : Nat} {xs : Nat → Int32} {D : va_G} {kc : Nat → ClassId} {ax am : Nat → Nat} (Q0 : LCtx p s m meth c b L xs D kc ax am) {i : Nat} (hi4 : i + 4 ≤ L) {H : Heap} {locs : List Loc} {ls : Array Slot} (hI : LI D kc s ax am H locs) (hl : lv_has ls 4 [(0, .ref b), (1, .ref (ax 0)), (2, .ref (am 0)), (3, .int (nI i))]) (kk : ∀ (H1 : Heap) (locs1 : List Loc), LI D kc s ax am H1 locs1 → W p l e room_1 s m #[Value.ref b] below meth c H1 locs1 134 1984 (lw_Z below #[Value.ref b] s) (F0 m 746 ls [])) : W p l e room_1 s m #[Value.ref b] below meth c H locs 134 1984 (lw_Z below #[Value.ref b] s) (F0 m 661 ls []) := by
  obtain ⟨C0, CX1, CX2, hap, hZ, hL⟩ := Q0
  obtain ⟨hx, hb, hr, hml, hown, hts, hX, hbl, hlocks, hgv⟩ := C0
  have hbA : ¬ AL s b := Nat.not_le.mpr hbl
  have hap2 : ∀ i j, i < 9 → j < 125 → am i ≠ ax j := fun i j h1 h2 q => hap j i h2 h1 q.symm
  obtain ⟨cx, cm, σ, hn, hh, T, ch, hPx, hPm, hS, hXA, hMA, hg, hgh⟩ := hI
  obtain ⟨fs, hm0⟩ := hMA.c0
  refine lv_aload_n hx hb dL_law_661 rfl (lv_at hl 1 rfl) ?_
  refine lw_call CX1 hap [] 6 (by omega) hXA.1 rfl (c_X6_undo l D kc 125 ax cx σ hn hh T ch  hXA hg.1 (Nat.le_refl 125)) (cwV 0 CX1.2.2.2.2.1 gL_law_X6_undo rfl rfl rfl (by decide +kernel) ⟨(Nat.le_of_ble_eq_true rfl), (Nat.le_of_ble_eq_true rfl)⟩) rfl rfl (Nat.le_of_ble_eq_true rfl) (Nat.le_of_ble_eq_true rfl) (Nat.le_of_ble_eq_true rfl) dL_law_662 hPx hPm hS hl (fun r1 cx1 H1 locs1 hp1 hPx1 hPm1 hS1 => ?_)
  obtain ⟨rfl, hx1⟩ := hp1
  refine lv_aload_n hx hb dL_law_665 rfl (lv_at hl 2 rfl) ?_
  refine lw_call CX2 hap2 [] 7 (by omega) hm0 rfl (c_X7_undo l D kc 9 am cm σ hn hh T ch  hMA hg.1 (Nat.le_refl 9) (fun j hj => (hgh j hj).1)) (cwV 0 CX2.2.2.2.2.1 gL_law_X7_undo rfl rfl rfl (by decide +kernel) ⟨(Nat.le_of_ble_eq_true rfl), (Nat.le_of_ble_eq_true rfl)⟩) rfl rfl (Nat.le_of_ble_eq_true rfl) (Nat.le_of_ble_eq_true rfl) (Nat.le_of_ble_eq_true rfl) dL_law_666 hPm1 hPx1 hS1 hl (fun r2 cm2 H2 locs2 hp2 hPm2 hPx2 hS2 => ?_)
  obtain ⟨rfl, hm2⟩ := hp2
  refine lv_icmp_eq (tgt := 746) hx hb dL_law_669 (by decide) (fun _ => ?_) (fun hc => absurd rfl hc)
  have hgu : GE (undoS σ hn hh) := by
    unfold undoS
    by_cases c9 : hn = 0
    · rw [if_pos c9]; exact hg
    · rw [if_neg c9]; exact hgh _ (by omega)
  exact kk _ _ ⟨_, _, _, _, _, _, _, hPx2, hPm2, hS2, hx1, hm2, hgu, fun j hj => hgh j (by omega)⟩
set_option maxRecDepth 100000 in
set_option maxHeartbeats 4000000 in
theorem lc_type {p : Program} {l : Launch} {e : Env} {s : State} {m : MethodId} {below : List Frame} {meth : Method} {c : Code} {b L : Nat} {xs : Nat → Int32} {D : va_G} {kc : Nat → ClassId} {ax am : Nat → Nat} (Q0 : LCtx p s m meth c b L xs D kc ax am) {i : Nat} (hi4 : i + 4 ≤ L) {H : Heap} {locs : List Loc} {ls : Array Slot} (hI : LI D kc s ax am H locs) (hl : lv_has ls 4 [(0, .ref b), (1, .ref (ax 0)), (2, .ref (am 0)), (3, .int (nI i))]) (kk : ∀ (H1 : Heap) (locs1 : List Loc), LI D kc s ax am H1 locs1 → W p l e room_1 s m #[Value.ref b] below meth c H1 locs1 134 1984 (lw_Z below #[Value.ref b] s) (F0 m 746 ls [])) : W p l e room_1 s m #[Value.ref b] below meth c H locs 134 1984 (lw_Z below #[Value.ref b] s) (F0 m 674 ls []) := by
  obtain ⟨C0, CX1, CX2, hap, hZ, hL⟩ := Q0
  obtain ⟨hx, hb, hr, hml, hown, hts, hX, hbl, hlocks, hgv⟩ := C0
  have hbA : ¬ AL s b := Nat.not_le.mpr hbl
  have hap2 : ∀ i j, i < 9 → j < 125 → am i ≠ ax j := fun i j h1 h2 q => hap j i h2 h1 q.symm
  obtain ⟨cx, cm, σ, hn, hh, T, ch, hPx, hPm, hS, hXA, hMA, hg, hgh⟩ := hI
  obtain ⟨fs, hm0⟩ := hMA.c0
  have hin1 : vp_in (nI i + 1) L := by rw [show nI i + 1 = nI (i + 1) from mI_add i 1]; exact vp_in_nI (by omega) (by omega)
  refine lv_aload_n hx hb dL_law_674 rfl (lv_at hl 1 rfl) ?_
  refine lv_aload_n hx hb dL_law_675 rfl (lv_at hl 0 rfl) ?_
  refine lv_iload_n hx hb dL_law_676 rfl (lv_at hl 3 rfl) ?_
  refine lv_iconst (v := 1) hx hb dL_law_677 (by decide) ?_
  refine lv_iadd hx hb dL_law_678 ?_
  refine va_sld hx hb hX hbl hbA hS hin1 dL_law_679 ?_
  refine lw_call CX1 hap [.int (xs (nI i + 1).toNatClampNeg)] 6 (by omega) hXA.1 rfl (c_X6_type l D kc 125 ax cx σ hn hh T ch (xs (nI i + 1).toNatClampNeg) hXA hg.1 (Nat.le_refl 125)) (cwV 1 CX1.2.2.2.2.1 gL_law_X6_type rfl rfl rfl (by decide +kernel) ⟨(Nat.le_of_ble_eq_true rfl), (Nat.le_of_ble_eq_true rfl)⟩) rfl rfl (Nat.le_of_ble_eq_true rfl) (Nat.le_of_ble_eq_true rfl) (Nat.le_of_ble_eq_true rfl) dL_law_680 hPx hPm hS hl (fun r1 cx1 H1 locs1 hp1 hPx1 hPm1 hS1 => ?_)
  obtain ⟨rfl, hx1⟩ := hp1
  refine lv_aload_n hx hb dL_law_683 rfl (lv_at hl 2 rfl) ?_
  refine lv_aload_n hx hb dL_law_684 rfl (lv_at hl 0 rfl) ?_
  refine lv_iload_n hx hb dL_law_685 rfl (lv_at hl 3 rfl) ?_
  refine lv_iconst (v := 1) hx hb dL_law_686 (by decide) ?_
  refine lv_iadd hx hb dL_law_687 ?_
  refine va_sld hx hb hX hbl hbA hS1 hin1 dL_law_688 ?_
  refine lw_call CX2 hap2 [.int (xs (nI i + 1).toNatClampNeg)] 7 (by omega) hm0 rfl (c_X7_type l D kc 9 am cm σ hn hh T ch (xs (nI i + 1).toNatClampNeg) hMA hg.1 (Nat.le_refl 9)) (cwV 1 CX2.2.2.2.2.1 gL_law_X7_type rfl rfl rfl (by decide +kernel) ⟨(Nat.le_of_ble_eq_true rfl), (Nat.le_of_ble_eq_true rfl)⟩) rfl rfl (Nat.le_of_ble_eq_true rfl) (Nat.le_of_ble_eq_true rfl) (Nat.le_of_ble_eq_true rfl) dL_law_689 hPm1 hPx1 hS1 hl (fun r2 cm2 H2 locs2 hp2 hPm2 hPx2 hS2 => ?_)
  obtain ⟨rfl, hm2⟩ := hp2
  refine lv_icmp_eq (tgt := 746) hx hb dL_law_692 (by decide) (fun _ => ?_) (fun hc => absurd rfl hc)
  exact kk _ _ ⟨_, _, _, _, _, _, _, hPx2, hPm2, hS2, hx1, hm2, hg, hgh⟩
set_option maxRecDepth 100000 in
set_option maxHeartbeats 4000000 in
theorem lc_clearText {p : Program} {l : Launch} {e : Env} {s : State} {m : MethodId} {below : List Frame} {meth : Method} {c : Code} {b L : Nat} {xs : Nat → Int32} {D : va_G} {kc : Nat → ClassId} {ax am : Nat → Nat} (Q0 : LCtx p s m meth c b L xs D kc ax am) {i : Nat} (hi4 : i + 4 ≤ L) {H : Heap} {locs : List Loc} {ls : Array Slot} (hI : LI D kc s ax am H locs) (hl : lv_has ls 4 [(0, .ref b), (1, .ref (ax 0)), (2, .ref (am 0)), (3, .int (nI i))]) (kk : ∀ (H1 : Heap) (locs1 : List Loc), LI D kc s ax am H1 locs1 → W p l e room_1 s m #[Value.ref b] below meth c H1 locs1 134 1984 (lw_Z below #[Value.ref b] s) (F0 m 746 ls [])) : W p l e room_1 s m #[Value.ref b] below meth c H locs 134 1984 (lw_Z below #[Value.ref b] s) (F0 m 697 ls []) := by
  obtain ⟨C0, CX1, CX2, hap, hZ, hL⟩ := Q0
  obtain ⟨hx, hb, hr, hml, hown, hts, hX, hbl, hlocks, hgv⟩ := C0
  have hbA : ¬ AL s b := Nat.not_le.mpr hbl
  have hap2 : ∀ i j, i < 9 → j < 125 → am i ≠ ax j := fun i j h1 h2 q => hap j i h2 h1 q.symm
  obtain ⟨cx, cm, σ, hn, hh, T, ch, hPx, hPm, hS, hXA, hMA, hg, hgh⟩ := hI
  obtain ⟨fs, hm0⟩ := hMA.c0
  refine lv_aload_n hx hb dL_law_697 rfl (lv_at hl 1 rfl) ?_
  refine lw_call CX1 hap [] 6 (by omega) hXA.1 rfl (c_X6_clearText l D kc 125 ax cx σ hn hh T ch  hXA hg.1 (Nat.le_refl 125)) (cwV 0 CX1.2.2.2.2.1 gL_law_X6_clearText rfl rfl rfl (by decide +kernel) ⟨(Nat.le_of_ble_eq_true rfl), (Nat.le_of_ble_eq_true rfl)⟩) rfl rfl (Nat.le_of_ble_eq_true rfl) (Nat.le_of_ble_eq_true rfl) (Nat.le_of_ble_eq_true rfl) dL_law_698 hPx hPm hS hl (fun r1 cx1 H1 locs1 hp1 hPx1 hPm1 hS1 => ?_)
  obtain ⟨rfl, hx1⟩ := hp1
  refine lv_aload_n hx hb dL_law_701 rfl (lv_at hl 2 rfl) ?_
  refine lw_call CX2 hap2 [] 7 (by omega) hm0 rfl (c_X7_clearText l D kc 9 am cm σ hn hh T ch  hMA hg.1 (Nat.le_refl 9)) (cwV 0 CX2.2.2.2.2.1 gL_law_X7_clearText rfl rfl rfl (by decide +kernel) ⟨(Nat.le_of_ble_eq_true rfl), (Nat.le_of_ble_eq_true rfl)⟩) rfl rfl (Nat.le_of_ble_eq_true rfl) (Nat.le_of_ble_eq_true rfl) (Nat.le_of_ble_eq_true rfl) dL_law_702 hPm1 hPx1 hS1 hl (fun r2 cm2 H2 locs2 hp2 hPm2 hPx2 hS2 => ?_)
  obtain ⟨rfl, hm2⟩ := hp2
  refine lv_icmp_eq (tgt := 746) hx hb dL_law_705 (by decide) (fun _ => ?_) (fun hc => absurd rfl hc)
  exact kk _ _ ⟨_, _, _, _, _, _, _, hPx2, hPm2, hS2, hx1, hm2, hg, hgh⟩
set_option maxRecDepth 100000 in
set_option maxHeartbeats 4000000 in
theorem lc_fault {p : Program} {l : Launch} {e : Env} {s : State} {m : MethodId} {below : List Frame} {meth : Method} {c : Code} {b L : Nat} {xs : Nat → Int32} {D : va_G} {kc : Nat → ClassId} {ax am : Nat → Nat} (Q0 : LCtx p s m meth c b L xs D kc ax am) {i : Nat} (hi4 : i + 4 ≤ L) {H : Heap} {locs : List Loc} {ls : Array Slot} (hI : LI D kc s ax am H locs) (hl : lv_has ls 4 [(0, .ref b), (1, .ref (ax 0)), (2, .ref (am 0)), (3, .int (nI i))]) (kk : ∀ (H1 : Heap) (locs1 : List Loc), LI D kc s ax am H1 locs1 → W p l e room_1 s m #[Value.ref b] below meth c H1 locs1 134 1984 (lw_Z below #[Value.ref b] s) (F0 m 746 ls [])) : W p l e room_1 s m #[Value.ref b] below meth c H locs 134 1984 (lw_Z below #[Value.ref b] s) (F0 m 710 ls []) := by
  obtain ⟨C0, CX1, CX2, hap, hZ, hL⟩ := Q0
  obtain ⟨hx, hb, hr, hml, hown, hts, hX, hbl, hlocks, hgv⟩ := C0
  have hbA : ¬ AL s b := Nat.not_le.mpr hbl
  have hap2 : ∀ i j, i < 9 → j < 125 → am i ≠ ax j := fun i j h1 h2 q => hap j i h2 h1 q.symm
  obtain ⟨cx, cm, σ, hn, hh, T, ch, hPx, hPm, hS, hXA, hMA, hg, hgh⟩ := hI
  obtain ⟨fs, hm0⟩ := hMA.c0
  have hin1 : vp_in (nI i + 1) L := by rw [show nI i + 1 = nI (i + 1) from mI_add i 1]; exact vp_in_nI (by omega) (by omega)
  refine lv_aload_n hx hb dL_law_710 rfl (lv_at hl 1 rfl) ?_
  refine lv_aload_n hx hb dL_law_711 rfl (lv_at hl 0 rfl) ?_
  refine lv_iload_n hx hb dL_law_712 rfl (lv_at hl 3 rfl) ?_
  refine lv_iconst (v := 1) hx hb dL_law_713 (by decide) ?_
  refine lv_iadd hx hb dL_law_714 ?_
  refine va_sld hx hb hX hbl hbA hS hin1 dL_law_715 ?_
  refine lw_call CX1 hap [.int (xs (nI i + 1).toNatClampNeg)] 6 (by omega) hXA.1 rfl (c_X6_fault l D kc 125 ax cx σ hn hh T ch (xs (nI i + 1).toNatClampNeg) hXA hg.1 (Nat.le_refl 125)) (cwV 1 CX1.2.2.2.2.1 gL_law_X6_fault rfl rfl rfl (by decide +kernel) ⟨(Nat.le_of_ble_eq_true rfl), (Nat.le_of_ble_eq_true rfl)⟩) rfl rfl (Nat.le_of_ble_eq_true rfl) (Nat.le_of_ble_eq_true rfl) (Nat.le_of_ble_eq_true rfl) dL_law_716 hPx hPm hS hl (fun r1 cx1 H1 locs1 hp1 hPx1 hPm1 hS1 => ?_)
  obtain ⟨rfl, hx1⟩ := hp1
  refine lv_aload_n hx hb dL_law_719 rfl (lv_at hl 2 rfl) ?_
  refine lv_aload_n hx hb dL_law_720 rfl (lv_at hl 0 rfl) ?_
  refine lv_iload_n hx hb dL_law_721 rfl (lv_at hl 3 rfl) ?_
  refine lv_iconst (v := 1) hx hb dL_law_722 (by decide) ?_
  refine lv_iadd hx hb dL_law_723 ?_
  refine va_sld hx hb hX hbl hbA hS1 hin1 dL_law_724 ?_
  refine lw_call CX2 hap2 [.int (xs (nI i + 1).toNatClampNeg)] 7 (by omega) hm0 rfl (c_X7_fault l D kc 9 am cm σ hn hh T ch (xs (nI i + 1).toNatClampNeg) hMA hg.1 (Nat.le_refl 9)) (cwV 1 CX2.2.2.2.2.1 gL_law_X7_fault rfl rfl rfl (by decide +kernel) ⟨(Nat.le_of_ble_eq_true rfl), (Nat.le_of_ble_eq_true rfl)⟩) rfl rfl (Nat.le_of_ble_eq_true rfl) (Nat.le_of_ble_eq_true rfl) (Nat.le_of_ble_eq_true rfl) dL_law_725 hPm1 hPx1 hS1 hl (fun r2 cm2 H2 locs2 hp2 hPm2 hPx2 hS2 => ?_)
  obtain ⟨rfl, hm2⟩ := hp2
  refine lv_icmp_eq (tgt := 746) hx hb dL_law_728 (by decide) (fun _ => ?_) (fun hc => absurd rfl hc)
  exact kk _ _ ⟨_, _, _, _, _, _, _, hPx2, hPm2, hS2, hx1, hm2, hg, hgh⟩
set_option maxRecDepth 100000 in
set_option maxHeartbeats 4000000 in
theorem lc_play {p : Program} {l : Launch} {e : Env} {s : State} {m : MethodId} {below : List Frame} {meth : Method} {c : Code} {b L : Nat} {xs : Nat → Int32} {D : va_G} {kc : Nat → ClassId} {ax am : Nat → Nat} (Q0 : LCtx p s m meth c b L xs D kc ax am) {i : Nat} (hi4 : i + 4 ≤ L) {H : Heap} {locs : List Loc} {ls : Array Slot} (hI : LI D kc s ax am H locs) (hl : lv_has ls 4 [(0, .ref b), (1, .ref (ax 0)), (2, .ref (am 0)), (3, .int (nI i))]) (kk : ∀ (H1 : Heap) (locs1 : List Loc), LI D kc s ax am H1 locs1 → W p l e room_1 s m #[Value.ref b] below meth c H1 locs1 134 1984 (lw_Z below #[Value.ref b] s) (F0 m 746 ls [])) : W p l e room_1 s m #[Value.ref b] below meth c H locs 134 1984 (lw_Z below #[Value.ref b] s) (F0 m 733 ls []) := by
  obtain ⟨C0, CX1, CX2, hap, hZ, hL⟩ := Q0
  obtain ⟨hx, hb, hr, hml, hown, hts, hX, hbl, hlocks, hgv⟩ := C0
  have hbA : ¬ AL s b := Nat.not_le.mpr hbl
  have hap2 : ∀ i j, i < 9 → j < 125 → am i ≠ ax j := fun i j h1 h2 q => hap j i h2 h1 q.symm
  obtain ⟨cx, cm, σ, hn, hh, T, ch, hPx, hPm, hS, hXA, hMA, hg, hgh⟩ := hI
  obtain ⟨fs, hm0⟩ := hMA.c0
  refine lv_aload_n hx hb dL_law_733 rfl (lv_at hl 1 rfl) ?_
  refine lw_call CX1 hap [] 6 (by omega) hXA.1 rfl (c_X6_play l D kc 125 ax cx σ hn hh T ch  hXA hg.1 (Nat.le_refl 125)) (cwV 0 CX1.2.2.2.2.1 gL_law_X6_play rfl rfl rfl (by decide +kernel) ⟨(Nat.le_of_ble_eq_true rfl), (Nat.le_of_ble_eq_true rfl)⟩) rfl rfl (Nat.le_of_ble_eq_true rfl) (Nat.le_of_ble_eq_true rfl) (Nat.le_of_ble_eq_true rfl) dL_law_734 hPx hPm hS hl (fun r1 cx1 H1 locs1 hp1 hPx1 hPm1 hS1 => ?_)
  obtain ⟨rfl, hx1⟩ := hp1
  refine lv_aload_n hx hb dL_law_737 rfl (lv_at hl 2 rfl) ?_
  refine lw_call CX2 hap2 [] 7 (by omega) hm0 rfl (c_X7_play l D kc 9 am cm σ hn hh T ch  hMA hg.1 (Nat.le_refl 9) (fun j hj => (hgh j hj).1)) (cwV 0 CX2.2.2.2.2.1 gL_law_X7_play rfl rfl rfl (by decide +kernel) ⟨(Nat.le_of_ble_eq_true rfl), (Nat.le_of_ble_eq_true rfl)⟩) rfl rfl (Nat.le_of_ble_eq_true rfl) (Nat.le_of_ble_eq_true rfl) (Nat.le_of_ble_eq_true rfl) dL_law_738 hPm1 hPx1 hS1 hl (fun r2 cm2 H2 locs2 hp2 hPm2 hPx2 hS2 => ?_)
  obtain ⟨rfl, hm2⟩ := hp2
  refine lv_icmp_eq (tgt := 746) hx hb dL_law_741 (by decide) (fun _ => ?_) (fun hc => absurd rfl hc)
  have hge := ge_nx hg hgh hMA.h4 (ge_play (σ := σ) (T := T) (ch := ch) hg)
  exact kk _ _ ⟨_, _, _, _, _, _, _, hPx2, hPm2, hS2, hx1, hm2, hge.1, hge.2⟩
