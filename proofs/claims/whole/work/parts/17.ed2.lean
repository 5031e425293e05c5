set_option maxRecDepth 100000 in
set_option maxHeartbeats 4000000 in
theorem c_X5_faultOf (l : Launch) (D : va_G) (kc : Nat → ClassId) (N : Nat) (adr : Nat → Nat) (cell : Nat → va_E) (b n m : Nat) (ed : Int32) (W T U E P V : Nat → Int32) (F : Nat → Nat → Int32) (t L : Nat) (sx : Int32) (q : Nat) (sg : Int32) (ch nu : Nat → Int32) (hSt : StAt cell adr kc b (n, m, ed, W, T, U, E, P, V, F)) (hN : b + 19 ≤ N) (hT : TxAt cell adr kc t L sx (nI q) sg ch nu) (hNt : t + 3 ≤ N) (hsg : isC sg) : MI l yX5_faultOf wsX5_faultOf ({ frames := 2, cells := 0, slots := 0, locals := 44 }) D kc N adr cell [.ref (adr b), .ref (adr t)] (fun (w : Int32) (cell1 : Nat → va_E) => fltF n sg (nu 0) (nu 1) (nu 2) = w ∧ cell = cell1) := by
  refine met_i (cc := cX5_faultOf) (maxL := 4) (ret := (some .int)) (by decide) rfl (Nat.le_of_ble_eq_true rfl) (lv := [(0, .ref (adr b)), (1, .ref (adr t))]) rfl ?_
  intro Pg Ev Sv Mi args below Me Cd Ar C hr hlk hnm
  have in5 : ∀ w ∈ u_ws RX5 TX5 5, w ∈ wsX5_faultOf := by decide +kernel
  have f12 := C.2.2.2.2.1 (.fieldLink RX5 12 "WordAnchors$State" "row" "LWordAnchors$Row;") (by decide +kernel)
  have hSt0 := hSt
  obtain ⟨s0, hRw, ⟨gg, s5, hg⟩, s6, hAn, hm⟩ := hSt
  have s0 : cell b = .inr (5, [.ref (adr (b + 1)), .ref (adr (b + 5)), .ref (adr (b + 6)), .int (nI m), .int ed]) := s0
  have hRw : RowAt cell adr kc (b + 1) W T U n := hRw
  have s6 : cell (b + 6) = .inl (kc 0, 5, .inl E) := s6
  have hAn : AnsAt cell adr kc b P V F := hAn
  have hm : m ≤ 6 := hm
  obtain ⟨r0, r1, r2, r3, hn⟩ := hRw
  have hT0 := hT
  obtain ⟨t0, t1, t2, hL⟩ := hT
  have litm1 : ((-1) : Int32).toInt = -1 := rfl
  have lit0 : (0 : Int32).toInt = 0 := rfl
  have lit1 : (1 : Int32).toInt = 1 := rfl
  have lit2 : (2 : Int32).toInt = 2 := rfl
  have lit3 : (3 : Int32).toInt = 3 := rfl
  have lit43 : (43 : Int32).toInt = 43 := rfl
  have tn_n : (nI n).toInt = ((n : Nat) : Int) := nI_toInt (by omega)
  have tn_m : (nI m).toInt = ((m : Nat) : Int) := nI_toInt (by omega)
  have tn_L : (nI L).toInt = ((L : Nat) : Int) := nI_toInt (by omega)
  refine g_aload_n C 1 rfl dX5_faultOf_0 ?_
  refine g_iconst C 0 (by decide) dX5_faultOf_1 ?_
  refine g_Vi C [.int 0] t 2 (by omega) t0 rfl (c_X2_number l D kc N adr cell t L sx q sg ch nu 0 ⟨t0, t1, t2, by omega⟩ (by omega)) (cwV 1 C.2.2.2.2.1 gX5_faultOf_X2_number rfl rfl rfl (by decide +kernel) ⟨Nat.le_of_ble_eq_true rfl, Nat.le_of_ble_eq_true rfl⟩) rfl rfl (Nat.le_of_ble_eq_true rfl) (Nat.zero_le _) (Nat.zero_le _) dX5_faultOf_2 (fun v1 cell1 q1 => ?_)
  obtain ⟨rfl, rfl⟩ := q1
  refine g_eqst (st1 := ([.int (nu 0)] : List Value)) (by rw [if_pos (by decide)]; rfl) ?_
  refine g_istore_n C [(2, .int (nu 0)), (0, .ref (adr b)), (1, .ref (adr t))] (by decide) rfl dX5_faultOf_5 ?_
  refine g_aload_n C 2 rfl dX5_faultOf_6 ?_
  refine g_Vi C [] t 2 (by omega) t0 rfl (c_X2_sign l D kc N adr cell t L sx q sg ch nu  ⟨t0, t1, t2, by omega⟩ (by omega) hsg) (cwV 0 C.2.2.2.2.1 gX5_faultOf_X2_sign rfl rfl rfl (by decide +kernel) ⟨Nat.le_of_ble_eq_true rfl, Nat.le_of_ble_eq_true rfl⟩) rfl rfl (Nat.le_of_ble_eq_true rfl) (Nat.zero_le _) (Nat.zero_le _) dX5_faultOf_7 (fun v2 cell2 q2 => ?_)
  obtain ⟨rfl, rfl⟩ := q2
  by_cases c10_43 : sg = 43
  · have c10' := i_eq c10_43
    refine g_lookup C 36 (by decide) (by rw [c10_43] <;> rfl) (by decide) dX5_faultOf_10 ?_
    refine g_aload_n C 1 rfl dX5_faultOf_36 ?_
    refine g_get C b 5 0 (by omega) s0 rfl in5 (by decide) f12 (fun _ h9 => h9) rfl dX5_faultOf_37 ?_
    refine g_iload_n C 0 rfl dX5_faultOf_40 ?_
    refine g_Vi C [.int (nu 0)] (b + 1) 4 (by omega) r0 rfl (c_X4_takesAt l D kc N adr cell (b + 1) W T U n (nu 0) ⟨r0, r1, r2, r3, by omega⟩ (by omega)) (cwV 1 C.2.2.2.2.1 gX5_faultOf_X4_takesAt rfl rfl rfl (by decide +kernel) ⟨Nat.le_of_ble_eq_true rfl, Nat.le_of_ble_eq_true rfl⟩) rfl rfl (Nat.le_of_ble_eq_true rfl) (Nat.zero_le _) (Nat.zero_le _) dX5_faultOf_41 (fun v3 cell3 q3 => ?_)
    obtain ⟨rfl, rfl⟩ := q3
    refine g_istore_n C [(3, .int (bI (decide (0 ≤ (nu 0).toInt ∧ (nu 0).toInt ≤ n)))), (2, .int (nu 0)), (0, .ref (adr b)), (1, .ref (adr t))] (by decide) rfl dX5_faultOf_44 ?_
    refine g_goto C 79 (by decide) dX5_faultOf_45 ?_
    refine g_iload_n C 0 rfl dX5_faultOf_79 ?_
    refine g_if_ne C 85 (by decide) dX5_faultOf_80 (fun c80 => ?_) (fun c80 => ?_)
    · -- taken at 80
      have c80' := bI_t c80
      refine g_aload_n C 3 rfl dX5_faultOf_85 ?_
      refine g_Vi C [] t 2 (by omega) t0 rfl (c_X2_sign l D kc N adr cell t L sx q sg ch nu  ⟨t0, t1, t2, by omega⟩ (by omega) hsg) (cwV 0 C.2.2.2.2.1 gX5_faultOf_X2_sign rfl rfl rfl (by decide +kernel) ⟨Nat.le_of_ble_eq_true rfl, Nat.le_of_ble_eq_true rfl⟩) rfl rfl (Nat.le_of_ble_eq_true rfl) (Nat.zero_le _) (Nat.zero_le _) dX5_faultOf_86 (fun v4 cell4 q4 => ?_)
      obtain ⟨rfl, rfl⟩ := q4
      refine g_bipush C 43 (by decide) dX5_faultOf_89 ?_
      refine g_icmp_ne C 108 (by decide) dX5_faultOf_91 (fun c91 => ?_) (fun c91 => ?_)
      · -- taken at 91
        have c91' := i_ne c91
        refine g_iconst C 0 (by decide) dX5_faultOf_108 ?_
        refine g_iret C hr rfl hlk dX5_faultOf_109 ?_
        exact absurd c10_43 c91
      · -- not taken at 91
        have c91' := i_eq c91
        refine g_aload_n C 2 rfl dX5_faultOf_94 ?_
        refine g_get C b 5 0 (by omega) s0 rfl in5 (by decide) f12 (fun _ h9 => h9) rfl dX5_faultOf_95 ?_
        refine g_Vi C [] (b + 1) 4 (by omega) r0 rfl (c_X4_isFull l D kc N adr cell (b + 1) W T U n  ⟨r0, r1, r2, r3, by omega⟩ (by omega)) (cwV 0 C.2.2.2.2.1 gX5_faultOf_X4_isFull rfl rfl rfl (by decide +kernel) ⟨Nat.le_of_ble_eq_true rfl, Nat.le_of_ble_eq_true rfl⟩) rfl rfl (Nat.le_of_ble_eq_true rfl) (Nat.zero_le _) (Nat.zero_le _) dX5_faultOf_98 (fun v5 cell5 q5 => ?_)
        obtain ⟨rfl, rfl⟩ := q5
        refine g_if_eq C 108 (by decide) dX5_faultOf_101 (fun c101 => ?_) (fun c101 => ?_)
        · -- taken at 101
          have c101' := bI_f c101
          refine g_iconst C 0 (by decide) dX5_faultOf_108 ?_
          refine g_iret C hr rfl hlk dX5_faultOf_109 ?_
          exact ⟨by unfold fltF; rw [if_pos c10_43]; rw [if_pos c80']; exact if_neg c101', rfl⟩
        · -- not taken at 101
          have c101' := bI_t c101
          refine g_iconst C 3 (by decide) dX5_faultOf_104 ?_
          refine g_goto C 109 (by decide) dX5_faultOf_105 ?_
          refine g_iret C hr rfl hlk dX5_faultOf_109 ?_
          exact ⟨by unfold fltF; rw [if_pos c10_43]; rw [if_pos c80']; exact if_pos c101', rfl⟩
    · -- not taken at 80
      have c80' := bI_f c80
      refine g_iconst C 2 (by decide) dX5_faultOf_83 ?_
      refine g_iret C hr rfl hlk dX5_faultOf_84 ?_
      exact ⟨by unfold fltF; rw [if_pos c10_43]; exact if_neg c80', rfl⟩
  have c10n43 := i_ne c10_43
  by_cases c10_62 : sg = 62
  · have c10' := i_eq c10_62
    refine g_lookup C 48 (by decide) (by rw [c10_62] <;> rfl) (by decide) dX5_faultOf_10 ?_
    refine g_aload_n C 1 rfl dX5_faultOf_48 ?_
    refine g_get C b 5 0 (by omega) s0 rfl in5 (by decide) f12 (fun _ h9 => h9) rfl dX5_faultOf_49 ?_
    refine g_iload_n C 0 rfl dX5_faultOf_52 ?_
    refine g_aload_n C 2 rfl dX5_faultOf_53 ?_
    refine g_iconst C 1 (by decide) dX5_faultOf_54 ?_
    refine g_Vi C [.int 1] t 2 (by omega) t0 rfl (c_X2_number l D kc N adr cell t L sx q sg ch nu 1 ⟨t0, t1, t2, by omega⟩ (by omega)) (cwV 1 C.2.2.2.2.1 gX5_faultOf_X2_number rfl rfl rfl (by decide +kernel) ⟨Nat.le_of_ble_eq_true rfl, Nat.le_of_ble_eq_true rfl⟩) rfl rfl (Nat.le_of_ble_eq_true rfl) (Nat.zero_le _) (Nat.zero_le _) dX5_faultOf_55 (fun v6 cell6 q6 => ?_)
    obtain ⟨rfl, rfl⟩ := q6
    refine g_eqst (st1 := ([.int (nu 1), .int (nu 0), .ref (adr (b + 1))] : List Value)) (by rw [if_pos (by decide)]; rfl) ?_
    refine g_aload_n C 2 rfl dX5_faultOf_58 ?_
    refine g_iconst C 2 (by decide) dX5_faultOf_59 ?_
    refine g_Vi C [.int 2] t 2 (by omega) t0 rfl (c_X2_number l D kc N adr cell t L sx q sg ch nu 2 ⟨t0, t1, t2, by omega⟩ (by omega)) (cwV 1 C.2.2.2.2.1 gX5_faultOf_X2_number rfl rfl rfl (by decide +kernel) ⟨Nat.le_of_ble_eq_true rfl, Nat.le_of_ble_eq_true rfl⟩) rfl rfl (Nat.le_of_ble_eq_true rfl) (Nat.zero_le _) (Nat.zero_le _) dX5_faultOf_60 (fun v7 cell7 q7 => ?_)
    obtain ⟨rfl, rfl⟩ := q7
    refine g_eqst (st1 := ([.int (nu 2), .int (nu 1), .int (nu 0), .ref (adr (b + 1))] : List Value)) (by rw [if_pos (by decide)]; rfl) ?_
    refine g_Vi C [.int (nu 0), .int (nu 1), .int (nu 2)] (b + 1) 4 (by omega) r0 rfl (c_X4_canShift l D kc N adr cell (b + 1) W T U n (nu 0) (nu 1) (nu 2) ⟨r0, r1, r2, r3, by omega⟩ (by omega)) (cwV 3 C.2.2.2.2.1 gX5_faultOf_X4_canShift rfl rfl rfl (by decide +kernel) ⟨Nat.le_of_ble_eq_true rfl, Nat.le_of_ble_eq_true rfl⟩) rfl rfl (Nat.le_of_ble_eq_true rfl) (Nat.zero_le _) (Nat.zero_le _) dX5_faultOf_63 (fun v8 cell8 q8 => ?_)
    obtain ⟨rfl, rfl⟩ := q8
    refine g_istore_n C [(3, .int (bI (decide (0 ≤ (nu 0).toInt ∧ (nu 0).toInt < n ∧ 1 ≤ (nu 1).toInt ∧ (nu 1).toInt ≤ n - (nu 0).toInt ∧ 0 ≤ (nu 2).toInt ∧ (nu 2).toInt ≤ n - (nu 1).toInt)))), (2, .int (nu 0)), (0, .ref (adr b)), (1, .ref (adr t))] (by decide) rfl dX5_faultOf_66 ?_
    refine g_goto C 79 (by decide) dX5_faultOf_67 ?_
    refine g_iload_n C 0 rfl dX5_faultOf_79 ?_
    refine g_if_ne C 85 (by decide) dX5_faultOf_80 (fun c80 => ?_) (fun c80 => ?_)
    · -- taken at 80
      have c80' := bI_t c80
      refine g_aload_n C 3 rfl dX5_faultOf_85 ?_
      refine g_Vi C [] t 2 (by omega) t0 rfl (c_X2_sign l D kc N adr cell t L sx q sg ch nu  ⟨t0, t1, t2, by omega⟩ (by omega) hsg) (cwV 0 C.2.2.2.2.1 gX5_faultOf_X2_sign rfl rfl rfl (by decide +kernel) ⟨Nat.le_of_ble_eq_true rfl, Nat.le_of_ble_eq_true rfl⟩) rfl rfl (Nat.le_of_ble_eq_true rfl) (Nat.zero_le _) (Nat.zero_le _) dX5_faultOf_86 (fun v9 cell9 q9 => ?_)
      obtain ⟨rfl, rfl⟩ := q9
      refine g_bipush C 43 (by decide) dX5_faultOf_89 ?_
      refine g_icmp_ne C 108 (by decide) dX5_faultOf_91 (fun c91 => ?_) (fun c91 => ?_)
      · -- taken at 91
        have c91' := i_ne c91
        refine g_iconst C 0 (by decide) dX5_faultOf_108 ?_
        refine g_iret C hr rfl hlk dX5_faultOf_109 ?_
        exact ⟨by unfold fltF; rw [if_neg c10_43, if_pos c10_62]; exact if_pos c80', rfl⟩
      · -- not taken at 91
        have c91' := i_eq c91
        refine g_aload_n C 2 rfl dX5_faultOf_94 ?_
        refine g_get C b 5 0 (by omega) s0 rfl in5 (by decide) f12 (fun _ h9 => h9) rfl dX5_faultOf_95 ?_
        refine g_Vi C [] (b + 1) 4 (by omega) r0 rfl (c_X4_isFull l D kc N adr cell (b + 1) W T U n  ⟨r0, r1, r2, r3, by omega⟩ (by omega)) (cwV 0 C.2.2.2.2.1 gX5_faultOf_X4_isFull rfl rfl rfl (by decide +kernel) ⟨Nat.le_of_ble_eq_true rfl, Nat.le_of_ble_eq_true rfl⟩) rfl rfl (Nat.le_of_ble_eq_true rfl) (Nat.zero_le _) (Nat.zero_le _) dX5_faultOf_98 (fun v10 cell10 q10 => ?_)
        obtain ⟨rfl, rfl⟩ := q10
        refine g_if_eq C 108 (by decide) dX5_faultOf_101 (fun c101 => ?_) (fun c101 => ?_)
        · -- taken at 101
          have c101' := bI_f c101
          refine g_iconst C 0 (by decide) dX5_faultOf_108 ?_
          refine g_iret C hr rfl hlk dX5_faultOf_109 ?_
          exact absurd c91 c10_43
        · -- not taken at 101
          have c101' := bI_t c101
          refine g_iconst C 3 (by decide) dX5_faultOf_104 ?_
          refine g_goto C 109 (by decide) dX5_faultOf_105 ?_
          refine g_iret C hr rfl hlk dX5_faultOf_109 ?_
          exact absurd c91 c10_43
    · -- not taken at 80
      have c80' := bI_f c80
      refine g_iconst C 2 (by decide) dX5_faultOf_83 ?_
      refine g_iret C hr rfl hlk dX5_faultOf_84 ?_
      exact ⟨by unfold fltF; rw [if_neg c10_43, if_pos c10_62]; exact if_neg c80', rfl⟩
  have c10n62 := i_ne c10_62
  refine g_lookup C 70 (by decide) (by show Op.lookupswitch.offset [(43, 26), (62, 38)] 60 _ = 60; rw [lv_osw c10_43 (by decide)]; rw [lv_osw c10_62 (by decide)]; rfl) (by decide) dX5_faultOf_10 ?_
  refine g_aload_n C 1 rfl dX5_faultOf_70 ?_
  refine g_get C b 5 0 (by omega) s0 rfl in5 (by decide) f12 (fun _ h9 => h9) rfl dX5_faultOf_71 ?_
  refine g_iload_n C 0 rfl dX5_faultOf_74 ?_
  refine g_Vi C [.int (nu 0)] (b + 1) 4 (by omega) r0 rfl (c_X4_holds l D kc N adr cell (b + 1) W T U n (nu 0) ⟨r0, r1, r2, r3, by omega⟩ (by omega)) (cwV 1 C.2.2.2.2.1 gX5_faultOf_X4_holds rfl rfl rfl (by decide +kernel) ⟨Nat.le_of_ble_eq_true rfl, Nat.le_of_ble_eq_true rfl⟩) rfl rfl (Nat.le_of_ble_eq_true rfl) (Nat.zero_le _) (Nat.zero_le _) dX5_faultOf_75 (fun v11 cell11 q11 => ?_)
  obtain ⟨rfl, rfl⟩ := q11
  refine g_istore_n C [(3, .int (bI (decide (0 ≤ (nu 0).toInt ∧ (nu 0).toInt < n)))), (2, .int (nu 0)), (0, .ref (adr b)), (1, .ref (adr t))] (by decide) rfl dX5_faultOf_78 ?_
  refine g_iload_n C 0 rfl dX5_faultOf_79 ?_
  refine g_if_ne C 85 (by decide) dX5_faultOf_80 (fun c80 => ?_) (fun c80 => ?_)
  · -- taken at 80
    have c80' := bI_t c80
    refine g_aload_n C 3 rfl dX5_faultOf_85 ?_
    refine g_Vi C [] t 2 (by omega) t0 rfl (c_X2_sign l D kc N adr cell t L sx q sg ch nu  ⟨t0, t1, t2, by omega⟩ (by omega) hsg) (cwV 0 C.2.2.2.2.1 gX5_faultOf_X2_sign rfl rfl rfl (by decide +kernel) ⟨Nat.le_of_ble_eq_true rfl, Nat.le_of_ble_eq_true rfl⟩) rfl rfl (Nat.le_of_ble_eq_true rfl) (Nat.zero_le _) (Nat.zero_le _) dX5_faultOf_86 (fun v12 cell12 q12 => ?_)
    obtain ⟨rfl, rfl⟩ := q12
    refine g_bipush C 43 (by decide) dX5_faultOf_89 ?_
    refine g_icmp_ne C 108 (by decide) dX5_faultOf_91 (fun c91 => ?_) (fun c91 => ?_)
    · -- taken at 91
      have c91' := i_ne c91
      refine g_iconst C 0 (by decide) dX5_faultOf_108 ?_
      refine g_iret C hr rfl hlk dX5_faultOf_109 ?_
      exact ⟨by unfold fltF; rw [if_neg c10_43, if_neg c10_62]; exact if_pos c80', rfl⟩
    · -- not taken at 91
      have c91' := i_eq c91
      refine g_aload_n C 2 rfl dX5_faultOf_94 ?_
      refine g_get C b 5 0 (by omega) s0 rfl in5 (by decide) f12 (fun _ h9 => h9) rfl dX5_faultOf_95 ?_
      refine g_Vi C [] (b + 1) 4 (by omega) r0 rfl (c_X4_isFull l D kc N adr cell (b + 1) W T U n  ⟨r0, r1, r2, r3, by omega⟩ (by omega)) (cwV 0 C.2.2.2.2.1 gX5_faultOf_X4_isFull rfl rfl rfl (by decide +kernel) ⟨Nat.le_of_ble_eq_true rfl, Nat.le_of_ble_eq_true rfl⟩) rfl rfl (Nat.le_of_ble_eq_true rfl) (Nat.zero_le _) (Nat.zero_le _) dX5_faultOf_98 (fun v13 cell13 q13 => ?_)
      obtain ⟨rfl, rfl⟩ := q13
      refine g_if_eq C 108 (by decide) dX5_faultOf_101 (fun c101 => ?_) (fun c101 => ?_)
      · -- taken at 101
        have c101' := bI_f c101
        refine g_iconst C 0 (by decide) dX5_faultOf_108 ?_
        refine g_iret C hr rfl hlk dX5_faultOf_109 ?_
        exact absurd c91 c10_43
      · -- not taken at 101
        have c101' := bI_t c101
        refine g_iconst C 3 (by decide) dX5_faultOf_104 ?_
        refine g_goto C 109 (by decide) dX5_faultOf_105 ?_
        refine g_iret C hr rfl hlk dX5_faultOf_109 ?_
        exact absurd c91 c10_43
  · -- not taken at 80
    have c80' := bI_f c80
    refine g_iconst C 2 (by decide) dX5_faultOf_83 ?_
    refine g_iret C hr rfl hlk dX5_faultOf_84 ?_
    exact ⟨by unfold fltF; rw [if_neg c10_43, if_neg c10_62]; exact if_neg c80', rfl⟩
set_option maxRecDepth 100000 in
set_option maxHeartbeats 4000000 in
theorem c_X5_perform (l : Launch) (D : va_G) (kc : Nat → ClassId) (N : Nat) (adr : Nat → Nat) (cell : Nat → va_E) (b n m : Nat) (ed : Int32) (W T U E P V : Nat → Int32) (F : Nat → Nat → Int32) (t L : Nat) (sx : Int32) (q : Nat) (sg : Int32) (ch nu : Nat → Int32) (hSt : StAt cell adr kc b (n, m, ed, W, T, U, E, P, V, F)) (hN : b + 19 ≤ N) (hT : TxAt cell adr kc t L sx (nI q) sg ch nu) (hNt : t + 3 ≤ N) (hsg : isC sg) (hf : fltF n sg (nu 0) (nu 1) (nu 2) = 0) (hcs : ¬ sg = 43 → ¬ sg = 45 → ¬ sg = 61 → CSh n (nu 0) (nu 1) (nu 2)) : MV l yX5_perform wsX5_perform ({ frames := 4, cells := 0, slots := 0, locals := 92 }) D kc N adr cell [.ref (adr b), .ref (adr t)] (fun (cell1 : Nat → va_E) => StNew cell cell1 adr kc b (n, m, ed, W, T, U, E, P, V, F) (apD sg (nu 0) (nu 1) (nu 2))) := by
  refine met_v (cc := cX5_perform) (maxL := 3) (ret := none) (by decide) rfl (Nat.le_of_ble_eq_true rfl) (lv := [(0, .ref (adr b)), (1, .ref (adr t))]) rfl ?_
  intro Pg Ev Sv Mi args below Me Cd Ar C hr hlk hnm
  have hSt0 := hSt
  obtain ⟨s0, hRw, ⟨gg, s5, hg⟩, s6, hAn, hm⟩ := hSt
  have s0 : cell b = .inr (5, [.ref (adr (b + 1)), .ref (adr (b + 5)), .ref (adr (b + 6)), .int (nI m), .int ed]) := s0
  have hRw : RowAt cell adr kc (b + 1) W T U n := hRw
  have s6 : cell (b + 6) = .inl (kc 0, 5, .inl E) := s6
  have hAn : AnsAt cell adr kc b P V F := hAn
  have hm : m ≤ 6 := hm
  obtain ⟨r0, r1, r2, r3, hn⟩ := hRw
  have hT0 := hT
  obtain ⟨t0, t1, t2, hL⟩ := hT
  have litm1 : ((-1) : Int32).toInt = -1 := rfl
  have lit0 : (0 : Int32).toInt = 0 := rfl
  have lit1 : (1 : Int32).toInt = 1 := rfl
  have lit2 : (2 : Int32).toInt = 2 := rfl
  have tn_n : (nI n).toInt = ((n : Nat) : Int) := nI_toInt (by omega)
  have tn_m : (nI m).toInt = ((m : Nat) : Int) := nI_toInt (by omega)
  have tn_L : (nI L).toInt = ((L : Nat) : Int) := nI_toInt (by omega)
  refine g_aload_n C 1 rfl dX5_perform_0 ?_
  refine g_iconst C 0 (by decide) dX5_perform_1 ?_
  refine g_Vi C [.int 0] t 2 (by omega) t0 rfl (c_X2_number l D kc N adr cell t L sx q sg ch nu 0 ⟨t0, t1, t2, by omega⟩ (by omega)) (cwV 1 C.2.2.2.2.1 gX5_perform_X2_number rfl rfl rfl (by decide +kernel) ⟨Nat.le_of_ble_eq_true rfl, Nat.le_of_ble_eq_true rfl⟩) rfl rfl (Nat.le_of_ble_eq_true rfl) (Nat.zero_le _) (Nat.zero_le _) dX5_perform_2 (fun v1 cell1 q1 => ?_)
  obtain ⟨rfl, rfl⟩ := q1
  refine g_eqst (st1 := ([.int (nu 0)] : List Value)) (by rw [if_pos (by decide)]; rfl) ?_
  refine g_istore_n C [(2, .int (nu 0)), (0, .ref (adr b)), (1, .ref (adr t))] (by decide) rfl dX5_perform_5 ?_
  refine g_aload_n C 2 rfl dX5_perform_6 ?_
  refine g_Vi C [] t 2 (by omega) t0 rfl (c_X2_sign l D kc N adr cell t L sx q sg ch nu  ⟨t0, t1, t2, by omega⟩ (by omega) hsg) (cwV 0 C.2.2.2.2.1 gX5_perform_X2_sign rfl rfl rfl (by decide +kernel) ⟨Nat.le_of_ble_eq_true rfl, Nat.le_of_ble_eq_true rfl⟩) rfl rfl (Nat.le_of_ble_eq_true rfl) (Nat.zero_le _) (Nat.zero_le _) dX5_perform_7 (fun v2 cell2 q2 => ?_)
  obtain ⟨rfl, rfl⟩ := q2
  by_cases c10_43 : sg = 43
  · have c10' := i_eq c10_43
    refine g_lookup C 44 (by decide) (by rw [c10_43] <;> rfl) (by decide) dX5_perform_10 ?_
    obtain ⟨hp0, hp1, hp2⟩ := flt_43 hf c10_43
    have e0 : nu 0 = nI (nu 0).toNatClampNeg := nI_cl hp0
    have f00 := cl_toInt (x := nu 0) hp0
    generalize hz : (nu 0).toNatClampNeg = z at e0 f00
    refine g_eqlv (lv1 := [(2, .int (nI z)), (0, .ref (adr b)), (1, .ref (adr t))]) (congrArg (fun z0 : Int32 => ([(2, .int z0), (0, .ref (adr b)), (1, .ref (adr t))] : List (Nat × Value))) e0) ?_
    refine g_aload_n C 1 rfl dX5_perform_44 ?_
    refine g_iload_n C 0 rfl dX5_perform_45 ?_
    refine g_aload_n C 2 rfl dX5_perform_46 ?_
    refine g_iconst C 1 (by decide) dX5_perform_47 ?_
    refine g_Vi C [.int 1] t 2 (by omega) t0 rfl (c_X2_number l D kc N adr cell t L sx q sg ch nu 1 ⟨t0, t1, t2, by omega⟩ (by omega)) (cwV 1 C.2.2.2.2.1 gX5_perform_X2_number rfl rfl rfl (by decide +kernel) ⟨Nat.le_of_ble_eq_true rfl, Nat.le_of_ble_eq_true rfl⟩) rfl rfl (Nat.le_of_ble_eq_true rfl) (Nat.zero_le _) (Nat.zero_le _) dX5_perform_48 (fun v3 cell3 q3 => ?_)
    obtain ⟨rfl, rfl⟩ := q3
    refine g_eqst (st1 := ([.int (nu 1), .int (nI z), .ref (adr b)] : List Value)) (by rw [if_pos (by decide)]; rfl) ?_
    refine g_Vv C [.int (nI z), .int (nu 1)] b 5 (by omega) s0 rfl (c_X5_insertWord l D kc N adr cell b n m ed W T U E P V F z (nu 1) hSt0 (by omega) (by omega)) (cwV 2 C.2.2.2.2.1 gX5_perform_X5_insertWord rfl rfl rfl (by decide +kernel) ⟨Nat.le_of_ble_eq_true rfl, Nat.le_of_ble_eq_true rfl⟩) rfl rfl (Nat.le_of_ble_eq_true rfl) (Nat.zero_le _) (Nat.zero_le _) dX5_perform_51 (fun cell4 q4 => ?_)
    refine g_goto C 93 (by decide) dX5_perform_54 ?_
    refine g_vret C hr hlk dX5_perform_93 ?_
    have ea : apD sg (nu 0) (nu 1) (nu 2) = insD z (nu 1) := by funext σ; unfold apD; rw [if_pos c10_43, hz]
    rw [ea]
    exact ins_new (by omega) q4
  have c10n43 := i_ne c10_43
  by_cases c10_45 : sg = 45
  · have c10' := i_eq c10_45
    refine g_lookup C 57 (by decide) (by rw [c10_45] <;> rfl) (by decide) dX5_perform_10 ?_
    obtain ⟨hp0, hp1⟩ := flt_o hf (by rw [c10_45]; decide) (by rw [c10_45]; decide)
    have e0 : nu 0 = nI (nu 0).toNatClampNeg := nI_cl hp0
    have f00 := cl_toInt (x := nu 0) hp0
    generalize hz : (nu 0).toNatClampNeg = z at e0 f00
    refine g_eqlv (lv1 := [(2, .int (nI z)), (0, .ref (adr b)), (1, .ref (adr t))]) (congrArg (fun z0 : Int32 => ([(2, .int z0), (0, .ref (adr b)), (1, .ref (adr t))] : List (Nat × Value))) e0) ?_
    refine g_aload_n C 1 rfl dX5_perform_57 ?_
    refine g_iload_n C 0 rfl dX5_perform_58 ?_
    refine g_Vv C [.int (nI z)] b 5 (by omega) s0 rfl (c_X5_removeWord l D kc N adr cell b n m ed W T U E P V F z hSt0 (by omega) (by omega)) (cwV 1 C.2.2.2.2.1 gX5_perform_X5_removeWord rfl rfl rfl (by decide +kernel) ⟨Nat.le_of_ble_eq_true rfl, Nat.le_of_ble_eq_true rfl⟩) rfl rfl (Nat.le_of_ble_eq_true rfl) (Nat.zero_le _) (Nat.zero_le _) dX5_perform_59 (fun cell5 q5 => ?_)
    refine g_goto C 93 (by decide) dX5_perform_62 ?_
    refine g_vret C hr hlk dX5_perform_93 ?_
    have ea : apD sg (nu 0) (nu 1) (nu 2) = remD z := by funext σ; unfold apD; rw [if_neg c10_43, if_pos c10_45, hz]
    rw [ea]
    exact rem_new (by omega) q5
  have c10n45 := i_ne c10_45
  by_cases c10_61 : sg = 61
  · have c10' := i_eq c10_61
    refine g_lookup C 65 (by decide) (by rw [c10_61] <;> rfl) (by decide) dX5_perform_10 ?_
    obtain ⟨hp0, hp1⟩ := flt_o hf (by rw [c10_61]; decide) (by rw [c10_61]; decide)
    have e0 : nu 0 = nI (nu 0).toNatClampNeg := nI_cl hp0
    have f00 := cl_toInt (x := nu 0) hp0
    generalize hz : (nu 0).toNatClampNeg = z at e0 f00
    refine g_eqlv (lv1 := [(2, .int (nI z)), (0, .ref (adr b)), (1, .ref (adr t))]) (congrArg (fun z0 : Int32 => ([(2, .int z0), (0, .ref (adr b)), (1, .ref (adr t))] : List (Nat × Value))) e0) ?_
    refine g_aload_n C 1 rfl dX5_perform_65 ?_
    refine g_iload_n C 0 rfl dX5_perform_66 ?_
    refine g_aload_n C 2 rfl dX5_perform_67 ?_
    refine g_iconst C 1 (by decide) dX5_perform_68 ?_
    refine g_Vi C [.int 1] t 2 (by omega) t0 rfl (c_X2_number l D kc N adr cell t L sx q sg ch nu 1 ⟨t0, t1, t2, by omega⟩ (by omega)) (cwV 1 C.2.2.2.2.1 gX5_perform_X2_number rfl rfl rfl (by decide +kernel) ⟨Nat.le_of_ble_eq_true rfl, Nat.le_of_ble_eq_true rfl⟩) rfl rfl (Nat.le_of_ble_eq_true rfl) (Nat.zero_le _) (Nat.zero_le _) dX5_perform_69 (fun v6 cell6 q6 => ?_)
    obtain ⟨rfl, rfl⟩ := q6
    refine g_eqst (st1 := ([.int (nu 1), .int (nI z), .ref (adr b)] : List Value)) (by rw [if_pos (by decide)]; rfl) ?_
    refine g_Vv C [.int (nI z), .int (nu 1)] b 5 (by omega) s0 rfl (c_X5_replaceWord l D kc N adr cell b n m ed W T U E P V F z (nu 1) hSt0 (by omega) (by omega)) (cwV 2 C.2.2.2.2.1 gX5_perform_X5_replaceWord rfl rfl rfl (by decide +kernel) ⟨Nat.le_of_ble_eq_true rfl, Nat.le_of_ble_eq_true rfl⟩) rfl rfl (Nat.le_of_ble_eq_true rfl) (Nat.zero_le _) (Nat.zero_le _) dX5_perform_72 (fun cell7 q7 => ?_)
    refine g_goto C 93 (by decide) dX5_perform_75 ?_
    refine g_vret C hr hlk dX5_perform_93 ?_
    have ea : apD sg (nu 0) (nu 1) (nu 2) = chgD z (nu 1) := by funext σ; unfold apD; rw [if_neg c10_43, if_neg c10_45, if_pos c10_61, hz]
    rw [ea]
    exact chg_new q7
  have c10n61 := i_ne c10_61
  refine g_lookup C 78 (by decide) (by show Op.lookupswitch.offset [(43, 34), (45, 47), (61, 55)] 68 _ = 68; rw [lv_osw c10_43 (by decide)]; rw [lv_osw c10_45 (by decide)]; rw [lv_osw c10_61 (by decide)]; rfl) (by decide) dX5_perform_10 ?_
  obtain ⟨hp0, hp1, hp2, hp3, hp4, hp5⟩ := hcs c10_43 c10_45 c10_61
  have e1 : nu 1 = nI (nu 1).toNatClampNeg := nI_cl (by omega)
  have f10 := cl_toInt (x := nu 1) (by omega)
  generalize hz1 : (nu 1).toNatClampNeg = z1 at e1 f10
  have e2 : nu 2 = nI (nu 2).toNatClampNeg := nI_cl (by omega)
  have f20 := cl_toInt (x := nu 2) (by omega)
  generalize hz2 : (nu 2).toNatClampNeg = z2 at e2 f20
  have e0 : nu 0 = nI (nu 0).toNatClampNeg := nI_cl hp0
  have f00 := cl_toInt (x := nu 0) hp0
  generalize hz : (nu 0).toNatClampNeg = z at e0 f00
  refine g_eqlv (lv1 := [(2, .int (nI z)), (0, .ref (adr b)), (1, .ref (adr t))]) (congrArg (fun z0 : Int32 => ([(2, .int z0), (0, .ref (adr b)), (1, .ref (adr t))] : List (Nat × Value))) e0) ?_
  refine g_aload_n C 1 rfl dX5_perform_78 ?_
  refine g_iload_n C 0 rfl dX5_perform_79 ?_
  refine g_aload_n C 2 rfl dX5_perform_80 ?_
  refine g_iconst C 1 (by decide) dX5_perform_81 ?_
  refine g_Vi C [.int 1] t 2 (by omega) t0 rfl (c_X2_number l D kc N adr cell t L sx q sg ch nu 1 ⟨t0, t1, t2, by omega⟩ (by omega)) (cwV 1 C.2.2.2.2.1 gX5_perform_X2_number rfl rfl rfl (by decide +kernel) ⟨Nat.le_of_ble_eq_true rfl, Nat.le_of_ble_eq_true rfl⟩) rfl rfl (Nat.le_of_ble_eq_true rfl) (Nat.zero_le _) (Nat.zero_le _) dX5_perform_82 (fun v8 cell8 q8 => ?_)
  obtain ⟨rfl, rfl⟩ := q8
  refine g_eqst (st1 := ([.int (nI z1), .int (nI z), .ref (adr b)] : List Value)) (by rw [if_pos (by decide), ← e1]; rfl) ?_
  refine g_aload_n C 2 rfl dX5_perform_85 ?_
  refine g_iconst C 2 (by decide) dX5_perform_86 ?_
  refine g_Vi C [.int 2] t 2 (by omega) t0 rfl (c_X2_number l D kc N adr cell t L sx q sg ch nu 2 ⟨t0, t1, t2, by omega⟩ (by omega)) (cwV 1 C.2.2.2.2.1 gX5_perform_X2_number rfl rfl rfl (by decide +kernel) ⟨Nat.le_of_ble_eq_true rfl, Nat.le_of_ble_eq_true rfl⟩) rfl rfl (Nat.le_of_ble_eq_true rfl) (Nat.zero_le _) (Nat.zero_le _) dX5_perform_87 (fun v9 cell9 q9 => ?_)
  obtain ⟨rfl, rfl⟩ := q9
  refine g_eqst (st1 := ([.int (nI z2), .int (nI z1), .int (nI z), .ref (adr b)] : List Value)) (by rw [if_pos (by decide), ← e2]; rfl) ?_
  refine g_Vv C [.int (nI z), .int (nI z1), .int (nI z2)] b 5 (by omega) s0 rfl (c_X5_shiftWords l D kc N adr cell b n m ed W T U E P V F z z1 z2 hSt0 (by omega) (by omega)) (cwV 3 C.2.2.2.2.1 gX5_perform_X5_shiftWords rfl rfl rfl (by decide +kernel) ⟨Nat.le_of_ble_eq_true rfl, Nat.le_of_ble_eq_true rfl⟩) rfl rfl (Nat.le_of_ble_eq_true rfl) (Nat.zero_le _) (Nat.zero_le _) dX5_perform_90 (fun cell10 q10 => ?_)
  refine g_vret C hr hlk dX5_perform_93 ?_
  have ea : apD sg (nu 0) (nu 1) (nu 2) = movD z z1 z2 := by funext σ; unfold apD; rw [if_neg c10_43, if_neg c10_45, if_neg c10_61, hz, hz1, hz2]
  rw [ea]
  exact mov_new (by omega) q10
