set_option maxRecDepth 100000 in
set_option maxHeartbeats 4000000 in
theorem law_loop {p : Program} {l : Launch} {e : Env} {s : State} {m : MethodId} {below : List Frame} {meth : Method} {c : Code} {b L : Nat} {xs : Nat → Int32} {D : va_G} {kc : Nat → ClassId} {ax am : Nat → Nat} (Q0 : LCtx p s m meth c b L xs D kc ax am) : ∀ (fu i : Nat), i ≤ L → L < i + fu → ∀ (H : Heap) (locs : List Loc) (ls : Array Slot), LI D kc s ax am H locs → lv_has ls 4 [(0, .ref b), (1, .ref (ax 0)), (2, .ref (am 0)), (3, .int (nI i))] → W p l e room_1 s m #[Value.ref b] below meth c H locs 134 1984 (lw_Z below #[Value.ref b] s) (F0 m 18 ls []) := by
  have Q1 := Q0
  obtain ⟨C0, CX1, CX2, hap, hZ, hL⟩ := Q1
  obtain ⟨hx, hb, hr, hml, hown, hts, hX, hbl, hlocks, hgv⟩ := C0
  have hbA : ¬ AL s b := Nat.not_le.mpr hbl
  intro fu
  induction fu with
  | zero => intro i h1 h2; exact absurd h2 (by omega)
  | succ fu ih =>
    intro i hi hfu H locs ls hI hl
    have hI0 := hI
    obtain ⟨cx, cm, σ, hn, hh, T, ch, hPx, hPm, hS, hXA, hMA, hg, hgh⟩ := hI0
    refine lv_iload_n hx hb dL_law_18 rfl (lv_at hl 3 rfl) ?_
    refine lv_aload_n hx hb dL_law_19 rfl (lv_at hl 0 rfl) ?_
    refine va_slen hx hb hX hbl hbA hS dL_law_20 ?_
    refine lv_iconst (v := 4) hx hb dL_law_21 (by decide) ?_
    refine lv_isub hx hb dL_law_22 ?_
    have hsub : (Int32.ofNat L - 4).toInt = ((L : Nat) : Int) - 4 := pk_sub_toInt (a := L) (b := 4) (by omega) (by omega)
    have hti : (nI i).toInt = ((i : Nat) : Int) := nI_toInt (by omega)
    refine lv_icmp_gt (tgt := 752) hx hb dL_law_23 (by decide) (fun c9 => ?_) (fun c9 => ?_)
    · refine lv_iconst (v := 1) hx hb dL_law_752 (by decide) ?_
      refine va_forget (fun q hq => hS.2.2 q hq) ?_
      refine W.widen (k := 600000) (n := 7302250) (Nat.le_of_ble_eq_true rfl) (Nat.le_of_ble_eq_true rfl) ?_
      exact lw_ret hx hb hr hlocks dL_law_753
    · have c9' := i_nlt c9
      have hi4 : i + 4 ≤ L := by omega
      have hin0 : vp_in (nI i) L := vp_in_nI (by omega) (by omega)
      have hgo : ∀ (H1 : Heap) (locs1 : List Loc), LI D kc s ax am H1 locs1 → W p l e room_1 s m #[Value.ref b] below meth c H1 locs1 134 1984 (lw_Z below #[Value.ref b] s) (F0 m 746 ls []) := fun H1 locs1 hI1 => by
        refine lv_iinc (k := 3) (v := nI (i + 4)) (lv' := [(3, .int (nI (i + 4))), (0, .ref b), (1, .ref (ax 0)), (2, .ref (am 0))]) hx hb dL_law_746 hl rfl (by rw [show Int32.ofInt 4 = nI 4 by decide, mI_add]) (by decide) rfl (fun ls1 hl1 => ?_)
        refine lv_goto (tgt := 18) hx hb dL_law_749 (by decide) ?_
        exact ih (i + 4) hi4 (by omega) H1 locs1 ls1 hI1 (lv_sub hl1 [1, 2, 3, 0] rfl)
      refine lv_aload_n hx hb dL_law_26 rfl (lv_at hl 0 rfl) ?_
      refine lv_iload_n hx hb dL_law_27 rfl (lv_at hl 3 rfl) ?_
      refine va_sld hx hb hX hbl hbA hS hin0 dL_law_28 ?_
      refine lv_bipush (v := 31) hx hb dL_law_29 (by decide) ?_
      refine lv_iand hx hb dL_law_31 ?_
      refine lv_topi (fun v ev => ?_)
      by_cases c0 : v = 0
      · refine lv_tableIn (tgt := 144) hx hb dL_law_32 (by rw [c0]; decide) (by rw [c0]; decide) (by rw [c0] <;> rfl) (by decide) ?_
        exact lc_put Q0 hi4 hI hl hgo
      have n0 := i_ne c0
      by_cases c1 : v = 1
      · refine lv_tableIn (tgt := 177) hx hb dL_law_32 (by rw [c1]; decide) (by rw [c1]; decide) (by rw [c1] <;> rfl) (by decide) ?_
        exact lc_take Q0 hi4 hI hl hgo
      have n1 := i_ne c1
      by_cases c2 : v = 2
      · refine lv_tableIn (tgt := 200) hx hb dL_law_32 (by rw [c2]; decide) (by rw [c2]; decide) (by rw [c2] <;> rfl) (by decide) ?_
        exact lc_change Q0 hi4 hI hl hgo
      have n2 := i_ne c2
      by_cases c3 : v = 3
      · refine lv_tableIn (tgt := 233) hx hb dL_law_32 (by rw [c3]; decide) (by rw [c3]; decide) (by rw [c3] <;> rfl) (by decide) ?_
        exact lc_move Q0 hi4 hI hl hgo
      have n3 := i_ne c3
      by_cases c4 : v = 4
      · refine lv_tableIn (tgt := 276) hx hb dL_law_32 (by rw [c4]; decide) (by rw [c4]; decide) (by rw [c4] <;> rfl) (by decide) ?_
        exact lc_anchor Q0 hi4 hI hl hgo
      have n4 := i_ne c4
      by_cases c5 : v = 5
      · refine lv_tableIn (tgt := 299) hx hb dL_law_32 (by rw [c5]; decide) (by rw [c5]; decide) (by rw [c5] <;> rfl) (by decide) ?_
        exact lc_drop Q0 hi4 hI hl hgo
      have n5 := i_ne c5
      by_cases c6 : v = 6
      · refine lv_tableIn (tgt := 322) hx hb dL_law_32 (by rw [c6]; decide) (by rw [c6]; decide) (by rw [c6] <;> rfl) (by decide) ?_
        exact lc_find Q0 hi4 hI hl hgo
      have n6 := i_ne c6
      by_cases c7 : v = 7
      · refine lv_tableIn (tgt := 345) hx hb dL_law_32 (by rw [c7]; decide) (by rw [c7]; decide) (by rw [c7] <;> rfl) (by decide) ?_
        exact lc_findAll Q0 hi4 hI hl hgo
      have n7 := i_ne c7
      by_cases c8 : v = 8
      · refine lv_tableIn (tgt := 358) hx hb dL_law_32 (by rw [c8]; decide) (by rw [c8]; decide) (by rw [c8] <;> rfl) (by decide) ?_
        exact lc_remember Q0 hi4 hI hl hgo
      have n8 := i_ne c8
      by_cases c9 : v = 9
      · refine lv_tableIn (tgt := 381) hx hb dL_law_32 (by rw [c9]; decide) (by rw [c9]; decide) (by rw [c9] <;> rfl) (by decide) ?_
        exact lc_set Q0 hi4 hI hl hgo
      have n9 := i_ne c9
      by_cases c10 : v = 10
      · refine lv_tableIn (tgt := 414) hx hb dL_law_32 (by rw [c10]; decide) (by rw [c10]; decide) (by rw [c10] <;> rfl) (by decide) ?_
        exact lc_wordAt Q0 hi4 hI hl hgo
      have n10 := i_ne c10
      by_cases c11 : v = 11
      · refine lv_tableIn (tgt := 437) hx hb dL_law_32 (by rw [c11]; decide) (by rw [c11]; decide) (by rw [c11] <;> rfl) (by decide) ?_
        exact lc_anchorOf Q0 hi4 hI hl hgo
      have n11 := i_ne c11
      by_cases c12 : v = 12
      · refine lv_tableIn (tgt := 470) hx hb dL_law_32 (by rw [c12]; decide) (by rw [c12]; decide) (by rw [c12] <;> rfl) (by decide) ?_
        exact lc_score Q0 hi4 hI hl hgo
      have n12 := i_ne c12
      by_cases c13 : v = 13
      · refine lv_tableIn (tgt := 503) hx hb dL_law_32 (by rw [c13]; decide) (by rw [c13]; decide) (by rw [c13] <;> rfl) (by decide) ?_
        exact lc_anchors Q0 hi4 hI hl hgo
      have n13 := i_ne c13
      by_cases c14 : v = 14
      · refine lv_tableIn (tgt := 526) hx hb dL_law_32 (by rw [c14]; decide) (by rw [c14]; decide) (by rw [c14] <;> rfl) (by decide) ?_
        exact lc_blockOf Q0 hi4 hI hl hgo
      have n14 := i_ne c14
      by_cases c15 : v = 15
      · refine lv_tableIn (tgt := 559) hx hb dL_law_32 (by rw [c15]; decide) (by rw [c15]; decide) (by rw [c15] <;> rfl) (by decide) ?_
        exact lc_wouldTake Q0 hi4 hI hl hgo
      have n15 := i_ne c15
      by_cases c16 : v = 16
      · refine lv_tableIn (tgt := 592) hx hb dL_law_32 (by rw [c16]; decide) (by rw [c16]; decide) (by rw [c16] <;> rfl) (by decide) ?_
        exact lc_safest Q0 hi4 hI hl hgo
      have n16 := i_ne c16
      by_cases c17 : v = 17
      · refine lv_tableIn (tgt := 615) hx hb dL_law_32 (by rw [c17]; decide) (by rw [c17]; decide) (by rw [c17] <;> rfl) (by decide) ?_
        exact lc_clearest Q0 hi4 hI hl hgo
      have n17 := i_ne c17
      by_cases c18 : v = 18
      · refine lv_tableIn (tgt := 638) hx hb dL_law_32 (by rw [c18]; decide) (by rw [c18]; decide) (by rw [c18] <;> rfl) (by decide) ?_
        exact lc_count Q0 hi4 hI hl hgo
      have n18 := i_ne c18
      by_cases c19 : v = 19
      · refine lv_tableIn (tgt := 661) hx hb dL_law_32 (by rw [c19]; decide) (by rw [c19]; decide) (by rw [c19] <;> rfl) (by decide) ?_
        exact lc_undo Q0 hi4 hI hl hgo
      have n19 := i_ne c19
      by_cases c20 : v = 20
      · refine lv_tableIn (tgt := 674) hx hb dL_law_32 (by rw [c20]; decide) (by rw [c20]; decide) (by rw [c20] <;> rfl) (by decide) ?_
        exact lc_type Q0 hi4 hI hl hgo
      have n20 := i_ne c20
      by_cases c21 : v = 21
      · refine lv_tableIn (tgt := 697) hx hb dL_law_32 (by rw [c21]; decide) (by rw [c21]; decide) (by rw [c21] <;> rfl) (by decide) ?_
        exact lc_clearText Q0 hi4 hI hl hgo
      have n21 := i_ne c21
      by_cases c22 : v = 22
      · refine lv_tableIn (tgt := 710) hx hb dL_law_32 (by rw [c22]; decide) (by rw [c22]; decide) (by rw [c22] <;> rfl) (by decide) ?_
        exact lc_fault Q0 hi4 hI hl hgo
      have n22 := i_ne c22
      by_cases c23 : v = 23
      · refine lv_tableIn (tgt := 733) hx hb dL_law_32 (by rw [c23]; decide) (by rw [c23]; decide) (by rw [c23] <;> rfl) (by decide) ?_
        exact lc_play Q0 hi4 hI hl hgo
      have n23 := i_ne c23
      refine lv_tableOut (tgt := 746) hx hb dL_law_32 (by have l0 : (0 : Int32).toInt = 0 := rfl; have l1 : (1 : Int32).toInt = 1 := rfl; have l2 : (2 : Int32).toInt = 2 := rfl; have l3 : (3 : Int32).toInt = 3 := rfl; have l4 : (4 : Int32).toInt = 4 := rfl; have l5 : (5 : Int32).toInt = 5 := rfl; have l6 : (6 : Int32).toInt = 6 := rfl; have l7 : (7 : Int32).toInt = 7 := rfl; have l8 : (8 : Int32).toInt = 8 := rfl; have l9 : (9 : Int32).toInt = 9 := rfl; have l10 : (10 : Int32).toInt = 10 := rfl; have l11 : (11 : Int32).toInt = 11 := rfl; have l12 : (12 : Int32).toInt = 12 := rfl; have l13 : (13 : Int32).toInt = 13 := rfl; have l14 : (14 : Int32).toInt = 14 := rfl; have l15 : (15 : Int32).toInt = 15 := rfl; have l16 : (16 : Int32).toInt = 16 := rfl; have l17 : (17 : Int32).toInt = 17 := rfl; have l18 : (18 : Int32).toInt = 18 := rfl; have l19 : (19 : Int32).toInt = 19 := rfl; have l20 : (20 : Int32).toInt = 20 := rfl; have l21 : (21 : Int32).toInt = 21 := rfl; have l22 : (22 : Int32).toInt = 22 := rfl; have l23 : (23 : Int32).toInt = 23 := rfl; omega) (by decide) ?_
      exact hgo H locs hI
