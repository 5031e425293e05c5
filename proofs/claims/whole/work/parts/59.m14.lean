set_option maxRecDepth 100000 in
set_option maxHeartbeats 4000000 in
theorem c_X7_anchor (l : Launch) (D : va_G) (kc : Nat → ClassId) (N : Nat) (adr : Nat → Nat) (cell : Nat → va_E) (σ : SD) (hn : Nat) (hi : Nat → SD) (L : Nat) (ch : Nat → Int32) (x : Int32) (hM : MAt cell adr kc σ hn hi L ch) (hG : Good σ) (hN : 9 ≤ N) (hgh : ∀ i, i < hn → Good (hi i)) : MI l yX7_anchor wsX7_anchor ({ frames := 4, cells := 0, slots := 0, locals := 88 }) D kc N adr cell [.ref (adr 0), .int x] (fun (v : Int32) (cell1 : Nat → va_E) => anchorR σ x = v ∧ MNx cell1 adr kc σ hn hi (anchorO σ x) L ch) := by
  refine met_i (cc := cX7_anchor) (maxL := 3) (ret := (some .int)) (by decide) rfl (Nat.le_of_ble_eq_true rfl) (lv := [(0, .ref (adr 0)), (1, .int x)]) rfl ?_
  intro Pg Ev Sv Mi args below Me Cd Ar C hr hlk hnm
  have in7 : ∀ w ∈ u_ws RX7 TX7 12, w ∈ wsX7_anchor := by decide +kernel
  have f7 := C.2.2.2.2.1 (.fieldLink RX7 7 "WordAnchorsModel" "s" "[I") (by decide +kernel)
  have k52 := C.2.2.2.2.1 (.constant RX7 52 (-1000003)) (by decide +kernel)
  have k43 := C.2.2.2.2.1 (.constant RX7 43 (-1000001)) (by decide +kernel)
  have hM0 := hM
  obtain ⟨S, Wa, Bg, As, tx, at', re, nu, mo, sh, hB, hS, hH, htx, hh4, hL60⟩ := hM
  have hB0 := hB
  obtain ⟨m0, m1, m2, m3, m4, m5, m6, m7, m8⟩ := hB
  have hg1 := hG.1
  have hg2 := hG.2.1
  have e0 := hS.1
  have e1 := hS.2.1
  have litm1000003 : ((-1000003) : Int32).toInt = -1000003 := rfl
  have litm1000001 : ((-1000001) : Int32).toInt = -1000001 := rfl
  have litm1 : ((-1) : Int32).toInt = -1 := rfl
  have lit0 : (0 : Int32).toInt = 0 := rfl
  have lit1 : (1 : Int32).toInt = 1 := rfl
  have lit6 : (6 : Int32).toInt = 6 := rfl
  have lit7 : (7 : Int32).toInt = 7 := rfl
  have lit48 : (48 : Int32).toInt = 48 := rfl
  have tn___1 : (nI σ.1).toInt = ((σ.1 : Nat) : Int) := nI_toInt (by omega)
  have tn___2_1 : (nI σ.2.1).toInt = ((σ.2.1 : Nat) : Int) := nI_toInt (by omega)
  have tn_hn : (nI hn).toInt = ((hn : Nat) : Int) := nI_toInt (by omega)
  have tn_L : (nI L).toInt = ((L : Nat) : Int) := nI_toInt (by omega)
  refine g_aload_n C 0 rfl dX7_anchor_0 ?_
  refine g_iload_n C 1 rfl dX7_anchor_1 ?_
  refine g_Vi C [.int x] 0 7 (by omega) m0 rfl (c_X7_isPlace l D kc N adr cell S Wa Bg As tx (nI hn) (nI L) at' re nu mo sh σ x ⟨m0, m1, m2, m3, m4, m5, m6, m7, m8⟩ (by omega) hS hG.1 hG.2.1) (cwV 1 C.2.2.2.2.1 gX7_anchor_X7_isPlace rfl rfl rfl (by decide +kernel) ⟨Nat.le_of_ble_eq_true rfl, Nat.le_of_ble_eq_true rfl⟩) rfl rfl (Nat.le_of_ble_eq_true rfl) (Nat.zero_le _) (Nat.zero_le _) dX7_anchor_2 (fun v1 cell1 q1 => ?_)
  obtain ⟨rfl, rfl⟩ := q1
  refine g_if_ne C 11 (by decide) dX7_anchor_5 (fun c5 => ?_) (fun c5 => ?_)
  · -- taken at 5
    have c5' := bI_t c5
    refine g_aload_n C 0 rfl dX7_anchor_11 ?_
    refine g_get C 0 7 0 (by omega) m0 rfl in7 (by decide) f7 (fun _ h9 => h9) rfl dX7_anchor_12 ?_
    refine g_iconst C 1 (by decide) dX7_anchor_15 ?_
    refine g_iald C 1 (by omega) m1 (vp_in_iff.mpr (by omega)) dX7_anchor_16 ?_
    refine g_eqst (st1 := ([.int (S 1)] : List Value)) rfl ?_
    refine g_eqst (show ([.int (S 1)] : List Value) = ([.int (nI (σ.2.1))] : List Value) from by rw [e1]) ?_
    refine g_bipush C 6 (by decide) dX7_anchor_17 ?_
    refine g_icmp_ne C 25 (by decide) dX7_anchor_19 (fun c19 => ?_) (fun c19 => ?_)
    · -- taken at 19
      have c19' := i_ne c19
      refine g_aload_n C 0 rfl dX7_anchor_25 ?_
      refine g_Vv C [] 0 7 (by omega) m0 rfl (c_X7_keeps l D kc N adr cell S Wa Bg As tx (nI hn) (nI L) at' re nu mo sh ⟨m0, m1, m2, m3, m4, m5, m6, m7, m8⟩ (by omega)) (cwV 0 C.2.2.2.2.1 gX7_anchor_X7_keeps rfl rfl rfl (by decide +kernel) ⟨Nat.le_of_ble_eq_true rfl, Nat.le_of_ble_eq_true rfl⟩) rfl rfl (Nat.le_of_ble_eq_true rfl) (Nat.zero_le _) (Nat.zero_le _) dX7_anchor_26 (fun cell3 q3 => ?_)
      obtain ⟨h_4, h_5, h_6, h_7, h_8, h_9, h_10, h_11, h_12⟩ := q3
      have hBg : MS (fill S Bg 90) σ := ms_cong hS hg1 hg2 (fun j hj => fill_in hj)
      refine g_aload_n C 0 rfl dX7_anchor_29 ?_
      refine g_get C 0 7 0 (by omega) h_4 rfl in7 (by decide) f7 (fun _ h9 => h9) rfl dX7_anchor_30 ?_
      refine g_iconst C 1 (by decide) dX7_anchor_33 ?_
      refine g_iald C 1 (by omega) h_5 (vp_in_iff.mpr (by omega)) dX7_anchor_34 ?_
      refine g_eqst (st1 := ([.int (S 1)] : List Value)) rfl ?_
      refine g_eqst (show ([.int (S 1)] : List Value) = ([.int (nI (σ.2.1))] : List Value) from by rw [e1]) ?_
      refine g_istore_n C [(2, .int (nI (σ.2.1))), (0, .ref (adr 0)), (1, .int x)] (by decide) rfl dX7_anchor_35 ?_
      refine g_aload_n C 1 rfl dX7_anchor_36 ?_
      refine g_get C 0 7 0 (by omega) h_4 rfl in7 (by decide) f7 (fun _ h9 => h9) rfl dX7_anchor_37 ?_
      refine g_bipush C 48 (by decide) dX7_anchor_40 ?_
      refine g_bipush C 7 (by decide) dX7_anchor_42 ?_
      refine g_iload_n C 0 rfl dX7_anchor_44 ?_
      refine g_imul C dX7_anchor_45 ?_
      refine g_eqst (st1 := ([.int (nI (7 * (σ.2.1))), .int 48, .ref (adr 1)] : List Value)) (congrArg (fun z0 : Int32 => (([.int z0, .int 48, .ref (adr 1)] : List Value))) (mI_mul 7 (σ.2.1))) ?_
      refine g_iadd C dX7_anchor_46 ?_
      refine g_eqst (st1 := ([.int (nI (48 + (7 * (σ.2.1)))), .ref (adr 1)] : List Value)) (congrArg (fun z0 : Int32 => (([.int z0, .ref (adr 1)] : List Value))) (mI_add 48 (7 * (σ.2.1)))) ?_
      refine g_iload_n C 2 rfl dX7_anchor_47 ?_
      refine g_iast C 1 (by omega) h_5 (vp_in_nI (by omega) (by omega)) dX7_anchor_48 ?_
      refine g_cell (fun cell14 ec14 => ?_)
      have h_15 : cell14 0 = .inr (7, [.ref (adr 1), .ref (adr 2), .ref (adr 3), .ref (adr 4), .int (nI hn), .ref (adr 5), .int (nI L), .int at', .int re, .ref (adr 6), .ref (adr 7), .ref (adr 8)]) := by rw [ec14, va_up_ne _ _ (by omega)]; exact h_4
      have h_16 : cell14 1 = .inl (kc 0, 90, .inl (upd S (nI (48 + (7 * (σ.2.1)))).toNatClampNeg x)) := by rw [ec14]; exact va_up_self _ _ _
      have h_17 : cell14 2 = .inl (kc 0, 360, .inl Wa) := by rw [ec14, va_up_ne _ _ (by omega)]; exact h_6
      have h_18 : cell14 3 = .inl (kc 0, 90, .inl (fill S Bg 90)) := by rw [ec14, va_up_ne _ _ (by omega)]; exact h_7
      have h_19 : cell14 4 = .inl (kc 0, 90, .inl As) := by rw [ec14, va_up_ne _ _ (by omega)]; exact h_8
      have h_20 : cell14 5 = .inl (kc 1, 60, .inl tx) := by rw [ec14, va_up_ne _ _ (by omega)]; exact h_9
      have h_21 : cell14 6 = .inl (kc 0, 3, .inl nu) := by rw [ec14, va_up_ne _ _ (by omega)]; exact h_10
      have h_22 : cell14 7 = .inl (kc 0, 40, .inl mo) := by rw [ec14, va_up_ne _ _ (by omega)]; exact h_11
      have h_23 : cell14 8 = .inl (kc 0, 6, .inl sh) := by rw [ec14, va_up_ne _ _ (by omega)]; exact h_12
      have h_25 : cell14 1 = .inl (kc 0, 90, .inl (upd S (48 + (7 * (σ.2.1))) x)) := by rw [h_16, nI_clamp (by omega)]
      refine g_aload_n C 1 rfl dX7_anchor_49 ?_
      refine g_iload_n C 0 rfl dX7_anchor_50 ?_
      refine g_Vi C [.int (nI (σ.2.1))] 0 7 (by omega) h_15 rfl (c_X7_remembers l D kc N adr cell14 (upd S (48 + (7 * (σ.2.1))) x) Wa (fill S Bg 90) As tx (nI hn) (nI L) at' re nu mo sh σ (σ.2.1) x ⟨h_15, h_25, h_17, h_18, h_19, h_20, h_21, h_22, h_23⟩ (by omega) (ms_lo hS hg1 (fun j hj => upd_n (by omega))) hg1 hg2 (by omega) upd_s) (cwV 1 C.2.2.2.2.1 gX7_anchor_X7_remembers rfl rfl rfl (by decide +kernel) ⟨Nat.le_of_ble_eq_true rfl, Nat.le_of_ble_eq_true rfl⟩) rfl rfl (Nat.le_of_ble_eq_true rfl) (Nat.zero_le _) (Nat.zero_le _) dX7_anchor_51 (fun v26 cell26 q26 => ?_)
      obtain ⟨rfl, S1, ⟨h_27, h_28, h_29, h_30, h_31, h_32, h_33, h_34, h_35⟩, hq1, hq2, hq3⟩ := q26
      refine g_pop C rfl dX7_anchor_54 ?_
      refine g_aload_n C 1 rfl dX7_anchor_55 ?_
      refine g_get C 0 7 0 (by omega) h_27 rfl in7 (by decide) f7 (fun _ h9 => h9) rfl dX7_anchor_56 ?_
      refine g_iconst C 1 (by decide) dX7_anchor_59 ?_
      refine g_dup2 C rfl rfl dX7_anchor_60 ?_
      refine g_iald C 1 (by omega) h_28 (vp_in_iff.mpr (by omega)) dX7_anchor_61 ?_
      refine g_eqst (st1 := ([.int (S1 1), .int 1, .ref (adr 1)] : List Value)) rfl ?_
      refine g_eqst (show ([.int (S1 1), .int 1, .ref (adr 1)] : List Value) = ([.int (nI (σ.2.1)), .int 1, .ref (adr 1)] : List Value) from by rw [hq3 1 (by omega), upd_n (by omega), e1]) ?_
      refine g_iconst C 1 (by decide) dX7_anchor_62 ?_
      refine g_iadd C dX7_anchor_63 ?_
      refine g_eqst (st1 := ([.int (nI (σ.2.1 + 1)), .int 1, .ref (adr 1)] : List Value)) (congrArg (fun z0 : Int32 => (([.int z0, .int 1, .ref (adr 1)] : List Value))) (mI_add (σ.2.1) 1)) ?_
      refine g_iast C 1 (by omega) h_28 (vp_in_iff.mpr (by omega)) dX7_anchor_64 ?_
      refine g_cell (fun cell37 ec37 => ?_)
      have h_38 : cell37 0 = .inr (7, [.ref (adr 1), .ref (adr 2), .ref (adr 3), .ref (adr 4), .int (nI hn), .ref (adr 5), .int (nI L), .int at', .int re, .ref (adr 6), .ref (adr 7), .ref (adr 8)]) := by rw [ec37, va_up_ne _ _ (by omega)]; exact h_27
      have h_39 : cell37 1 = .inl (kc 0, 90, .inl (upd S1 (1 : Int32).toNatClampNeg (nI (σ.2.1 + 1)))) := by rw [ec37]; exact va_up_self _ _ _
      have h_40 : cell37 2 = .inl (kc 0, 360, .inl Wa) := by rw [ec37, va_up_ne _ _ (by omega)]; exact h_29
      have h_41 : cell37 3 = .inl (kc 0, 90, .inl (fill S Bg 90)) := by rw [ec37, va_up_ne _ _ (by omega)]; exact h_30
      have h_42 : cell37 4 = .inl (kc 0, 90, .inl As) := by rw [ec37, va_up_ne _ _ (by omega)]; exact h_31
      have h_43 : cell37 5 = .inl (kc 1, 60, .inl tx) := by rw [ec37, va_up_ne _ _ (by omega)]; exact h_32
      have h_44 : cell37 6 = .inl (kc 0, 3, .inl nu) := by rw [ec37, va_up_ne _ _ (by omega)]; exact h_33
      have h_45 : cell37 7 = .inl (kc 0, 40, .inl mo) := by rw [ec37, va_up_ne _ _ (by omega)]; exact h_34
      have h_46 : cell37 8 = .inl (kc 0, 6, .inl sh) := by rw [ec37, va_up_ne _ _ (by omega)]; exact h_35
      have h_48 : cell37 1 = .inl (kc 0, 90, .inl (upd S1 1 (nI (σ.2.1 + 1)))) := h_39.trans (congrArg (fun z0 : Nat => (.inl (kc 0, 90, .inl (upd S1 z0 (nI (σ.2.1 + 1)))) : va_E)) (show (1 : Int32).toNatClampNeg = 1 by decide))
      refine g_aload_n C 1 rfl dX7_anchor_65 ?_
      refine g_iload_n C 0 rfl dX7_anchor_66 ?_
      refine g_Vi C [.int (nI (σ.2.1))] 0 7 (by omega) h_38 rfl (c_X7_acted l D kc N adr cell37 (upd S1 1 (nI (σ.2.1 + 1))) Wa (fill S Bg 90) As tx (nI hn) (nI L) at' re nu mo sh (nI (σ.2.1)) hn ⟨h_38, h_48, h_40, h_41, h_42, h_43, h_44, h_45, h_46⟩ (by omega) rfl hh4) (cwV 1 C.2.2.2.2.1 gX7_anchor_X7_acted rfl rfl rfl (by decide +kernel) ⟨Nat.le_of_ble_eq_true rfl, Nat.le_of_ble_eq_true rfl⟩) rfl rfl (Nat.le_of_ble_eq_true rfl) (Nat.zero_le _) (Nat.zero_le _) dX7_anchor_67 (fun v49 cell49 q49 => ?_)
      obtain ⟨rfl, Wa1, ⟨h_50, h_51, h_52, h_53, h_54, h_55, h_56, h_57, h_58⟩, hw1, hw2⟩ := q49
      refine g_iret C hr rfl hlk dX7_anchor_70 ?_
      have hms : MS (upd S1 1 (nI (σ.2.1 + 1))) (addD x σ) := ms_add hS hg1 upd_s (by rw [upd_n (by omega), hq3 _ (by omega), upd_s]) (by rw [upd_n (by omega)]; exact hq1) (fun j hj => by rw [upd_n (by omega)]; exact hq2 j hj) (fun j h1 hj => by rw [upd_n h1, hq3 j (by omega), upd_n (by omega)])
      have hO : anchorO σ x = some (addD x σ) := if_pos (by omega)
      exact ⟨by unfold anchorR; rw [if_neg (by omega), if_neg (by omega)], mat_act ⟨h_50, h_51, h_52, h_53, h_54, h_55, h_56, h_57, h_58⟩ (ms_yes hO hms) (sg_some hO (nI_sg (by omega))) hBg hG hgh hH hw1 hw2 htx hh4 hL60⟩
    · -- not taken at 19
      have c19' := i_eq c19
      refine g_ldc C (-1000003) k52 dX7_anchor_22 ?_
      refine g_iret C hr rfl hlk dX7_anchor_24 ?_
      exact ⟨by unfold anchorR; rw [if_neg (by omega), if_pos (by omega)], MNx.no (by unfold anchorO; exact if_neg (by omega)) hM0⟩
  · -- not taken at 5
    have c5' := bI_f c5
    refine g_ldc C (-1000001) k43 dX7_anchor_8 ?_
    refine g_iret C hr rfl hlk dX7_anchor_10 ?_
    exact ⟨by unfold anchorR; exact if_pos (by omega), MNx.no (by unfold anchorO; exact if_neg (by omega)) hM0⟩
set_option maxRecDepth 100000 in
set_option maxHeartbeats 4000000 in
theorem c_X7_drop (l : Launch) (D : va_G) (kc : Nat → ClassId) (N : Nat) (adr : Nat → Nat) (cell : Nat → va_E) (σ : SD) (hn : Nat) (hi : Nat → SD) (L : Nat) (ch : Nat → Int32) (x : Int32) (hM : MAt cell adr kc σ hn hi L ch) (hG : Good σ) (hN : 9 ≤ N) (hgh : ∀ i, i < hn → Good (hi i)) : MI l yX7_drop wsX7_drop ({ frames := 2, cells := 0, slots := 0, locals := 43 }) D kc N adr cell [.ref (adr 0), .int x] (fun (v : Int32) (cell1 : Nat → va_E) => dropR σ x = v ∧ MNx cell1 adr kc σ hn hi (dropO σ x) L ch) := by
  refine met_i (cc := cX7_drop) (maxL := 3) (ret := (some .int)) (by decide) rfl (Nat.le_of_ble_eq_true rfl) (lv := [(0, .ref (adr 0)), (1, .int x)]) rfl ?_
  intro Pg Ev Sv Mi args below Me Cd Ar C hr hlk hnm
  have in7 : ∀ w ∈ u_ws RX7 TX7 12, w ∈ wsX7_drop := by decide +kernel
  have f7 := C.2.2.2.2.1 (.fieldLink RX7 7 "WordAnchorsModel" "s" "[I") (by decide +kernel)
  have k43 := C.2.2.2.2.1 (.constant RX7 43 (-1000001)) (by decide +kernel)
  have hM0 := hM
  obtain ⟨S, Wa, Bg, As, tx, at', re, nu, mo, sh, hB, hS, hH, htx, hh4, hL60⟩ := hM
  have hB0 := hB
  obtain ⟨m0, m1, m2, m3, m4, m5, m6, m7, m8⟩ := hB
  have hg1 := hG.1
  have hg2 := hG.2.1
  have e0 := hS.1
  have e1 := hS.2.1
  have litm1000001 : ((-1000001) : Int32).toInt = -1000001 := rfl
  have litm1 : ((-1) : Int32).toInt = -1 := rfl
  have lit0 : (0 : Int32).toInt = 0 := rfl
  have lit1 : (1 : Int32).toInt = 1 := rfl
  have lit7 : (7 : Int32).toInt = 7 := rfl
  have lit48 : (48 : Int32).toInt = 48 := rfl
  have tn___1 : (nI σ.1).toInt = ((σ.1 : Nat) : Int) := nI_toInt (by omega)
  have tn___2_1 : (nI σ.2.1).toInt = ((σ.2.1 : Nat) : Int) := nI_toInt (by omega)
  have tn_hn : (nI hn).toInt = ((hn : Nat) : Int) := nI_toInt (by omega)
  have tn_L : (nI L).toInt = ((L : Nat) : Int) := nI_toInt (by omega)
  refine g_aload_n C 0 rfl dX7_drop_0 ?_
  refine g_iload_n C 1 rfl dX7_drop_1 ?_
  refine g_Vi C [.int x] 0 7 (by omega) m0 rfl (c_X7_isAnchor l D kc N adr cell S Wa Bg As tx (nI hn) (nI L) at' re nu mo sh σ x ⟨m0, m1, m2, m3, m4, m5, m6, m7, m8⟩ (by omega) hS hG.1 hG.2.1) (cwV 1 C.2.2.2.2.1 gX7_drop_X7_isAnchor rfl rfl rfl (by decide +kernel) ⟨Nat.le_of_ble_eq_true rfl, Nat.le_of_ble_eq_true rfl⟩) rfl rfl (Nat.le_of_ble_eq_true rfl) (Nat.zero_le _) (Nat.zero_le _) dX7_drop_2 (fun v1 cell1 q1 => ?_)
  obtain ⟨rfl, rfl⟩ := q1
  refine g_if_ne C 11 (by decide) dX7_drop_5 (fun c5 => ?_) (fun c5 => ?_)
  · -- taken at 5
    have c5' := bI_t c5
    have ez : x = nI x.toNatClampNeg := nI_cl (by omega)
    have kz := cl_toInt (x := x) (by omega)
    generalize hzz : x.toNatClampNeg = z at ez kz
    refine g_eqlv (lv1 := [(0, .ref (adr 0)), (1, .int (nI z))]) (congrArg (fun z0 : Int32 => ([(0, .ref (adr 0)), (1, .int z0)] : List (Nat × Value))) ez) ?_
    refine g_aload_n C 0 rfl dX7_drop_11 ?_
    refine g_Vv C [] 0 7 (by omega) m0 rfl (c_X7_keeps l D kc N adr cell S Wa Bg As tx (nI hn) (nI L) at' re nu mo sh ⟨m0, m1, m2, m3, m4, m5, m6, m7, m8⟩ (by omega)) (cwV 0 C.2.2.2.2.1 gX7_drop_X7_keeps rfl rfl rfl (by decide +kernel) ⟨Nat.le_of_ble_eq_true rfl, Nat.le_of_ble_eq_true rfl⟩) rfl rfl (Nat.le_of_ble_eq_true rfl) (Nat.zero_le _) (Nat.zero_le _) dX7_drop_12 (fun cell2 q2 => ?_)
    obtain ⟨h_3, h_4, h_5, h_6, h_7, h_8, h_9, h_10, h_11⟩ := q2
    have hBg : MS (fill S Bg 90) σ := ms_cong hS hg1 hg2 (fun j hj => fill_in hj)
    refine g_aload_n C 0 rfl dX7_drop_15 ?_
    refine g_get C 0 7 0 (by omega) h_3 rfl in7 (by decide) f7 (fun _ h9 => h9) rfl dX7_drop_16 ?_
    refine g_iconst C 1 (by decide) dX7_drop_19 ?_
    refine g_dup2 C rfl rfl dX7_drop_20 ?_
    refine g_iald C 1 (by omega) h_4 (vp_in_iff.mpr (by omega)) dX7_drop_21 ?_
    refine g_eqst (st1 := ([.int (S 1), .int 1, .ref (adr 1)] : List Value)) rfl ?_
    refine g_eqst (show ([.int (S 1), .int 1, .ref (adr 1)] : List Value) = ([.int (nI (σ.2.1)), .int 1, .ref (adr 1)] : List Value) from by rw [e1]) ?_
    refine g_iconst C 1 (by decide) dX7_drop_22 ?_
    refine g_isub C dX7_drop_23 ?_
    refine g_eqst (show ([.int ((nI (σ.2.1)) - 1), .int 1, .ref (adr 1)] : List Value) = ([.int (nI (σ.2.1 - 1)), .int 1, .ref (adr 1)] : List Value) from by rw [show nI (σ.2.1) - 1 = nI (σ.2.1 - 1) from pk_sub (b := 1) (by omega)]) ?_
    refine g_iast C 1 (by omega) h_4 (vp_in_iff.mpr (by omega)) dX7_drop_24 ?_
    refine g_cell (fun cell14 ec14 => ?_)
    have h_15 : cell14 0 = .inr (7, [.ref (adr 1), .ref (adr 2), .ref (adr 3), .ref (adr 4), .int (nI hn), .ref (adr 5), .int (nI L), .int at', .int re, .ref (adr 6), .ref (adr 7), .ref (adr 8)]) := by rw [ec14, va_up_ne _ _ (by omega)]; exact h_3
    have h_16 : cell14 1 = .inl (kc 0, 90, .inl (upd S (1 : Int32).toNatClampNeg (nI (σ.2.1 - 1)))) := by rw [ec14]; exact va_up_self _ _ _
    have h_17 : cell14 2 = .inl (kc 0, 360, .inl Wa) := by rw [ec14, va_up_ne _ _ (by omega)]; exact h_5
    have h_18 : cell14 3 = .inl (kc 0, 90, .inl (fill S Bg 90)) := by rw [ec14, va_up_ne _ _ (by omega)]; exact h_6
    have h_19 : cell14 4 = .inl (kc 0, 90, .inl As) := by rw [ec14, va_up_ne _ _ (by omega)]; exact h_7
    have h_20 : cell14 5 = .inl (kc 1, 60, .inl tx) := by rw [ec14, va_up_ne _ _ (by omega)]; exact h_8
    have h_21 : cell14 6 = .inl (kc 0, 3, .inl nu) := by rw [ec14, va_up_ne _ _ (by omega)]; exact h_9
    have h_22 : cell14 7 = .inl (kc 0, 40, .inl mo) := by rw [ec14, va_up_ne _ _ (by omega)]; exact h_10
    have h_23 : cell14 8 = .inl (kc 0, 6, .inl sh) := by rw [ec14, va_up_ne _ _ (by omega)]; exact h_11
    have h_25 : cell14 1 = .inl (kc 0, 90, .inl (upd S 1 (nI (σ.2.1 - 1)))) := h_16.trans (congrArg (fun z0 : Nat => (.inl (kc 0, 90, .inl (upd S z0 (nI (σ.2.1 - 1)))) : va_E)) (show (1 : Int32).toNatClampNeg = 1 by decide))
    refine g_bipush C 7 (by decide) dX7_drop_25 ?_
    refine g_iload_n C 1 rfl dX7_drop_27 ?_
    refine g_imul C dX7_drop_28 ?_
    refine g_eqst (st1 := ([.int (nI (7 * z))] : List Value)) (congrArg (fun z0 : Int32 => (([.int z0] : List Value))) (mI_mul 7 z)) ?_
    refine g_istore_n C [(2, .int (nI (7 * z))), (0, .ref (adr 0)), (1, .int (nI z))] (by decide) rfl dX7_drop_29 ?_
    have L30 : ∀ (fu k : Nat) (cl : Nat → va_E) (Sl : Nat → Int32), k ≤ (7 * (σ.2.1 - 1)) → (7 * (σ.2.1 - 1)) < k + fu → (q0 : cl 0 = .inr (7, [.ref (adr 1), .ref (adr 2), .ref (adr 3), .ref (adr 4), .int (nI hn), .ref (adr 5), .int (nI L), .int at', .int re, .ref (adr 6), .ref (adr 7), .ref (adr 8)])) → (q1 : cl 1 = .inl (kc 0, 90, .inl Sl)) → (q2 : cl 2 = .inl (kc 0, 360, .inl Wa)) → (q3 : cl 3 = .inl (kc 0, 90, .inl (fill S Bg 90))) → (q4 : cl 4 = .inl (kc 0, 90, .inl As)) → (q5 : cl 5 = .inl (kc 1, 60, .inl tx)) → (q6 : cl 6 = .inl (kc 0, 3, .inl nu)) → (q7 : cl 7 = .inl (kc 0, 40, .inl mo)) → (q8 : cl 8 = .inl (kc 0, 6, .inl sh)) → (hsl : ∀ j : Nat, Sl j = if 48 + 7 * z ≤ j ∧ j < 48 + k then S (j + 7) else if j = 1 then nI (σ.2.1 - 1) else S j) → (hzk : 7 * z ≤ k) → G Pg l Ev (headSpec wsX7_drop { frames := 2, cells := 0, slots := 0, locals := 43 }).room Sv Mi args below Me Cd D N adr Ar Sv.heap 3 0 0 (MQ below (va_Qi (fun (v : Int32) (cell1 : Nat → va_E) => dropR σ x = v ∧ MNx cell1 adr kc σ hn hi (dropO σ x) L ch) (fun (cell1 : Nat → va_E) (t : State) => va_P D vwCl (wld N adr cell1) t.heap) Ar) args Sv 0 0 Ar) cl 30 [(0, .ref (adr 0)), (1, .int (nI z)), (2, .int (nI k))] ([] : List Value) := by
      intro fu
      induction fu with
      | zero => intro k cl Sl hle hfu; exact absurd hfu (by omega)
      | succ fu ih =>
        intro k cl Sl hle30 hfu30 q0 q1 q2 q3 q4 q5 q6 q7 q8 hsl hzk
        have tn_k : (nI k).toInt = ((k : Nat) : Int) := nI_toInt (by omega)
        have tn_b : (nI (7 * (σ.2.1 - 1))).toInt = ((7 * (σ.2.1 - 1) : Nat) : Int) := nI_toInt (by omega)
        refine g_iload_n C 2 rfl dX7_drop_30 ?_
        refine g_bipush C 7 (by decide) dX7_drop_31 ?_
        refine g_aload_n C 0 rfl dX7_drop_33 ?_
        refine g_get C 0 7 0 (by omega) q0 rfl in7 (by decide) f7 (fun _ h9 => h9) rfl dX7_drop_34 ?_
        refine g_iconst C 1 (by decide) dX7_drop_37 ?_
        refine g_iald C 1 (by omega) q1 (vp_in_iff.mpr (by omega)) dX7_drop_38 ?_
        refine g_eqst (st1 := ([.int (Sl 1), .int 7, .int (nI k)] : List Value)) rfl ?_
        refine g_eqst (show ([.int (Sl 1), .int 7, .int (nI k)] : List Value) = ([.int (nI (σ.2.1 - 1)), .int 7, .int (nI k)] : List Value) from by rw [hsl, if_neg (by omega), if_pos rfl]) ?_
        refine g_imul C dX7_drop_39 ?_
        refine g_eqst (st1 := ([.int (nI (7 * (σ.2.1 - 1))), .int (nI k)] : List Value)) (congrArg (fun z0 : Int32 => (([.int z0, .int (nI k)] : List Value))) (mI_mul 7 (σ.2.1 - 1))) ?_
        refine g_icmp_ge C 70 (by decide) dX7_drop_40 (fun c40 => ?_) (fun c40 => ?_)
        · -- taken at 40
          have c40' := i_le c40
          have hke : k = 7 * (σ.2.1 - 1) := by omega
          refine g_aload_n C 0 rfl dX7_drop_70 ?_
          refine g_aload_n C 0 rfl dX7_drop_71 ?_
          refine g_get C 0 7 0 (by omega) q0 rfl in7 (by decide) f7 (fun _ h9 => h9) rfl dX7_drop_72 ?_
          refine g_iconst C 1 (by decide) dX7_drop_75 ?_
          refine g_iald C 1 (by omega) q1 (vp_in_iff.mpr (by omega)) dX7_drop_76 ?_
          refine g_eqst (st1 := ([.int (Sl 1), .ref (adr 0)] : List Value)) rfl ?_
          refine g_eqst (show ([.int (Sl 1), .ref (adr 0)] : List Value) = ([.int (nI (σ.2.1 - 1)), .ref (adr 0)] : List Value) from by rw [hsl, if_neg (by omega), if_pos rfl]) ?_
          refine g_Vi C [.int (nI (σ.2.1 - 1))] 0 7 (by omega) q0 rfl (c_X7_acted l D kc N adr cl Sl Wa (fill S Bg 90) As tx (nI hn) (nI L) at' re nu mo sh (nI (σ.2.1 - 1)) hn ⟨q0, q1, q2, q3, q4, q5, q6, q7, q8⟩ (by omega) rfl hh4) (cwV 1 C.2.2.2.2.1 gX7_drop_X7_acted rfl rfl rfl (by decide +kernel) ⟨Nat.le_of_ble_eq_true rfl, Nat.le_of_ble_eq_true rfl⟩) rfl rfl (Nat.le_of_ble_eq_true rfl) (Nat.zero_le _) (Nat.zero_le _) dX7_drop_77 (fun v28 cell28 q28 => ?_)
          obtain ⟨rfl, Wa1, ⟨h_29, h_30, h_31, h_32, h_33, h_34, h_35, h_36, h_37⟩, hw1, hw2⟩ := q28
          refine g_iret C hr rfl hlk dX7_drop_80 ?_
          have hms : MS Sl (dropD z σ) := ms_drop hS hg1 (by omega) (by rw [← hke]; exact hsl)
          have hO : dropO σ x = some (dropD z σ) := by unfold dropO; rw [hzz]; exact if_pos (by unfold InA; omega)
          exact ⟨by unfold dropR; rw [if_neg (by unfold InA; omega)], mat_act ⟨h_29, h_30, h_31, h_32, h_33, h_34, h_35, h_36, h_37⟩ (ms_yes hO hms) (sg_some hO (nI_sg (by omega))) hBg hG hgh hH hw1 hw2 htx hh4 hL60⟩
        · -- not taken at 40
          have c40' := i_nle c40
          refine g_aload_n C 0 rfl dX7_drop_43 ?_
          refine g_get C 0 7 0 (by omega) q0 rfl in7 (by decide) f7 (fun _ h9 => h9) rfl dX7_drop_44 ?_
          refine g_bipush C 48 (by decide) dX7_drop_47 ?_
          refine g_iload_n C 2 rfl dX7_drop_49 ?_
          refine g_iadd C dX7_drop_50 ?_
          refine g_eqst (st1 := ([.int (nI (48 + k)), .ref (adr 1)] : List Value)) (congrArg (fun z0 : Int32 => (([.int z0, .ref (adr 1)] : List Value))) (mI_add 48 k)) ?_
          refine g_aload_n C 0 rfl dX7_drop_51 ?_
          refine g_get C 0 7 0 (by omega) q0 rfl in7 (by decide) f7 (fun _ h9 => h9) rfl dX7_drop_52 ?_
          refine g_bipush C 48 (by decide) dX7_drop_55 ?_
          refine g_iload_n C 2 rfl dX7_drop_57 ?_
          refine g_iadd C dX7_drop_58 ?_
          refine g_eqst (st1 := ([.int (nI (48 + k)), .ref (adr 1), .int (nI (48 + k)), .ref (adr 1)] : List Value)) (congrArg (fun z0 : Int32 => (([.int z0, .ref (adr 1), .int (nI (48 + k)), .ref (adr 1)] : List Value))) (mI_add 48 k)) ?_
          refine g_bipush C 7 (by decide) dX7_drop_59 ?_
          refine g_iadd C dX7_drop_61 ?_
          refine g_eqst (st1 := ([.int (nI (48 + k + 7)), .ref (adr 1), .int (nI (48 + k)), .ref (adr 1)] : List Value)) (congrArg (fun z0 : Int32 => (([.int z0, .ref (adr 1), .int (nI (48 + k)), .ref (adr 1)] : List Value))) (mI_add (48 + k) 7)) ?_
          refine g_iald C 1 (by omega) q1 (vp_in_nI (by omega) (by omega)) dX7_drop_62 ?_
          refine g_eqst (show ([.int (Sl (nI (48 + k + 7)).toNatClampNeg), .int (nI (48 + k)), .ref (adr 1)] : List Value) = ([.int (Sl (48 + k + 7)), .int (nI (48 + k)), .ref (adr 1)] : List Value) from by rw [nI_clamp (by omega)]) ?_
          refine g_iast C 1 (by omega) q1 (vp_in_nI (by omega) (by omega)) dX7_drop_63 ?_
          refine g_cell (fun cell38 ec38 => ?_)
          have h_39 : cell38 0 = .inr (7, [.ref (adr 1), .ref (adr 2), .ref (adr 3), .ref (adr 4), .int (nI hn), .ref (adr 5), .int (nI L), .int at', .int re, .ref (adr 6), .ref (adr 7), .ref (adr 8)]) := by rw [ec38, va_up_ne _ _ (by omega)]; exact q0
          have h_40 : cell38 1 = .inl (kc 0, 90, .inl (upd Sl (nI (48 + k)).toNatClampNeg (Sl (48 + k + 7)))) := by rw [ec38]; exact va_up_self _ _ _
          have h_41 : cell38 2 = .inl (kc 0, 360, .inl Wa) := by rw [ec38, va_up_ne _ _ (by omega)]; exact q2
          have h_42 : cell38 3 = .inl (kc 0, 90, .inl (fill S Bg 90)) := by rw [ec38, va_up_ne _ _ (by omega)]; exact q3
          have h_43 : cell38 4 = .inl (kc 0, 90, .inl As) := by rw [ec38, va_up_ne _ _ (by omega)]; exact q4
          have h_44 : cell38 5 = .inl (kc 1, 60, .inl tx) := by rw [ec38, va_up_ne _ _ (by omega)]; exact q5
          have h_45 : cell38 6 = .inl (kc 0, 3, .inl nu) := by rw [ec38, va_up_ne _ _ (by omega)]; exact q6
          have h_46 : cell38 7 = .inl (kc 0, 40, .inl mo) := by rw [ec38, va_up_ne _ _ (by omega)]; exact q7
          have h_47 : cell38 8 = .inl (kc 0, 6, .inl sh) := by rw [ec38, va_up_ne _ _ (by omega)]; exact q8
          have h_49 : cell38 1 = .inl (kc 0, 90, .inl (upd Sl (48 + k) (Sl (48 + k + 7)))) := by rw [h_40, nI_clamp (by omega)]
          refine g_iinc C 2 [(2, .int (nI (k + 1))), (0, .ref (adr 0)), (1, .int (nI z))] rfl (iinc_nI k) (by decide) rfl dX7_drop_64 ?_
          refine g_goto C 30 (by decide) dX7_drop_67 ?_
          have hb : ∀ j : Nat, (upd Sl (48 + k) (Sl (48 + k + 7))) j = if 48 + 7 * z ≤ j ∧ j < 48 + (k + 1) then S (j + 7) else if j = 1 then nI (σ.2.1 - 1) else S j := fun j => by
            by_cases e : j = 48 + k
            · rw [e, upd_s, hsl, if_neg (by omega), if_neg (by omega), if_pos (by omega)]
            · rw [upd_n e, hsl]
              by_cases c : 48 + 7 * z ≤ j ∧ j < 48 + k
              · rw [if_pos c, if_pos (by omega)]
              · rw [if_neg c, if_neg (by omega : ¬ (48 + 7 * z ≤ j ∧ j < 48 + (k + 1)))]
          refine g_sub [1, 2, 0] rfl ?_
          exact ih (k + 1) _ _ (by omega) (by omega) h_39 h_49 h_41 h_42 h_43 h_44 h_45 h_46 h_47 hb (by omega)
    refine g_sub [1, 2, 0] rfl ?_
    exact L30 ((7 * (σ.2.1 - 1)) + 1) (7 * z) _ _ (by omega) (by omega) h_15 h_25 h_17 h_18 h_19 h_20 h_21 h_22 h_23 (fun j => by rw [if_neg (by omega : ¬ (48 + 7 * z ≤ j ∧ j < 48 + 7 * z))]; rfl) (Nat.le_refl _)
  · -- not taken at 5
    have c5' := bI_f c5
    refine g_ldc C (-1000001) k43 dX7_drop_8 ?_
    refine g_iret C hr rfl hlk dX7_drop_10 ?_
    exact ⟨by unfold dropR; exact if_pos (by unfold InA; omega), MNx.no (by unfold dropO; exact if_neg (by unfold InA; omega)) hM0⟩
set_option maxRecDepth 100000 in
set_option maxHeartbeats 4000000 in
theorem c_X7_find (l : Launch) (D : va_G) (kc : Nat → ClassId) (N : Nat) (adr : Nat → Nat) (cell : Nat → va_E) (σ : SD) (hn : Nat) (hi : Nat → SD) (L : Nat) (ch : Nat → Int32) (x : Int32) (hM : MAt cell adr kc σ hn hi L ch) (hG : Good σ) (hN : 9 ≤ N) (hgh : ∀ i, i < hn → Good (hi i)) : MI l yX7_find wsX7_find ({ frames := 6, cells := 0, slots := 0, locals := 140 }) D kc N adr cell [.ref (adr 0), .int x] (fun (v : Int32) (cell1 : Nat → va_E) => findR σ x = v ∧ MNx cell1 adr kc σ hn hi (findO σ x) L ch) := by
  refine met_i (cc := cX7_find) (maxL := 2) (ret := (some .int)) (by decide) rfl (Nat.le_of_ble_eq_true rfl) (lv := [(0, .ref (adr 0)), (1, .int x)]) rfl ?_
  intro Pg Ev Sv Mi args below Me Cd Ar C hr hlk hnm
  have in7 : ∀ w ∈ u_ws RX7 TX7 12, w ∈ wsX7_find := by decide +kernel
  have f7 := C.2.2.2.2.1 (.fieldLink RX7 7 "WordAnchorsModel" "s" "[I") (by decide +kernel)
  have k99 := C.2.2.2.2.1 (.constant RX7 99 (-1000002)) (by decide +kernel)
  have k43 := C.2.2.2.2.1 (.constant RX7 43 (-1000001)) (by decide +kernel)
  have hM0 := hM
  obtain ⟨S, Wa, Bg, As, tx, at', re, nu, mo, sh, hB, hS, hH, htx, hh4, hL60⟩ := hM
  have hB0 := hB
  obtain ⟨m0, m1, m2, m3, m4, m5, m6, m7, m8⟩ := hB
  have hg1 := hG.1
  have hg2 := hG.2.1
  have e0 := hS.1
  have e1 := hS.2.1
  have litm1000002 : ((-1000002) : Int32).toInt = -1000002 := rfl
  have litm1000001 : ((-1000001) : Int32).toInt = -1000001 := rfl
  have litm1 : ((-1) : Int32).toInt = -1 := rfl
  have lit0 : (0 : Int32).toInt = 0 := rfl
  have lit1 : (1 : Int32).toInt = 1 := rfl
  have lit2 : (2 : Int32).toInt = 2 := rfl
  have lit7 : (7 : Int32).toInt = 7 := rfl
  have lit48 : (48 : Int32).toInt = 48 := rfl
  have tn___1 : (nI σ.1).toInt = ((σ.1 : Nat) : Int) := nI_toInt (by omega)
  have tn___2_1 : (nI σ.2.1).toInt = ((σ.2.1 : Nat) : Int) := nI_toInt (by omega)
  have tn_hn : (nI hn).toInt = ((hn : Nat) : Int) := nI_toInt (by omega)
  have tn_L : (nI L).toInt = ((L : Nat) : Int) := nI_toInt (by omega)
  refine g_aload_n C 0 rfl dX7_find_0 ?_
  refine g_iload_n C 1 rfl dX7_find_1 ?_
  refine g_Vi C [.int x] 0 7 (by omega) m0 rfl (c_X7_isAnchor l D kc N adr cell S Wa Bg As tx (nI hn) (nI L) at' re nu mo sh σ x ⟨m0, m1, m2, m3, m4, m5, m6, m7, m8⟩ (by omega) hS hG.1 hG.2.1) (cwV 1 C.2.2.2.2.1 gX7_find_X7_isAnchor rfl rfl rfl (by decide +kernel) ⟨Nat.le_of_ble_eq_true rfl, Nat.le_of_ble_eq_true rfl⟩) rfl rfl (Nat.le_of_ble_eq_true rfl) (Nat.zero_le _) (Nat.zero_le _) dX7_find_2 (fun v1 cell1 q1 => ?_)
  obtain ⟨rfl, rfl⟩ := q1
  refine g_if_ne C 11 (by decide) dX7_find_5 (fun c5 => ?_) (fun c5 => ?_)
  · -- taken at 5
    have c5' := bI_t c5
    have ez : x = nI x.toNatClampNeg := nI_cl (by omega)
    have kz := cl_toInt (x := x) (by omega)
    generalize hzz : x.toNatClampNeg = z at ez kz
    refine g_eqlv (lv1 := [(0, .ref (adr 0)), (1, .int (nI z))]) (congrArg (fun z0 : Int32 => ([(0, .ref (adr 0)), (1, .int z0)] : List (Nat × Value))) ez) ?_
    refine g_aload_n C 0 rfl dX7_find_11 ?_
    refine g_iload_n C 1 rfl dX7_find_12 ?_
    refine g_Vi C [.int (nI z)] 0 7 (by omega) m0 rfl (c_X7_how l D kc N adr cell S Wa Bg As tx (nI hn) (nI L) at' re nu mo sh σ z ⟨m0, m1, m2, m3, m4, m5, m6, m7, m8⟩ (by omega) hS hG (by omega)) (cwV 1 C.2.2.2.2.1 gX7_find_X7_how rfl rfl rfl (by decide +kernel) ⟨Nat.le_of_ble_eq_true rfl, Nat.le_of_ble_eq_true rfl⟩) rfl rfl (Nat.le_of_ble_eq_true rfl) (Nat.zero_le _) (Nat.zero_le _) dX7_find_13 (fun v2 cell2 q2 => ?_)
    obtain ⟨rfl, rfl⟩ := q2
    refine g_iconst C 2 (by decide) dX7_find_16 ?_
    refine g_icmp_ne C 23 (by decide) dX7_find_17 (fun c17 => ?_) (fun c17 => ?_)
    · -- taken at 17
      have c17' := i_ne c17
      refine g_aload_n C 0 rfl dX7_find_23 ?_
      refine g_Vv C [] 0 7 (by omega) m0 rfl (c_X7_keeps l D kc N adr cell S Wa Bg As tx (nI hn) (nI L) at' re nu mo sh ⟨m0, m1, m2, m3, m4, m5, m6, m7, m8⟩ (by omega)) (cwV 0 C.2.2.2.2.1 gX7_find_X7_keeps rfl rfl rfl (by decide +kernel) ⟨Nat.le_of_ble_eq_true rfl, Nat.le_of_ble_eq_true rfl⟩) rfl rfl (Nat.le_of_ble_eq_true rfl) (Nat.zero_le _) (Nat.zero_le _) dX7_find_24 (fun cell3 q3 => ?_)
      obtain ⟨h_4, h_5, h_6, h_7, h_8, h_9, h_10, h_11, h_12⟩ := q3
      have hBg : MS (fill S Bg 90) σ := ms_cong hS hg1 hg2 (fun j hj => fill_in hj)
      refine g_aload_n C 0 rfl dX7_find_27 ?_
      refine g_get C 0 7 0 (by omega) h_4 rfl in7 (by decide) f7 (fun _ h9 => h9) rfl dX7_find_28 ?_
      refine g_bipush C 48 (by decide) dX7_find_31 ?_
      refine g_bipush C 7 (by decide) dX7_find_33 ?_
      refine g_iload_n C 1 rfl dX7_find_35 ?_
      refine g_imul C dX7_find_36 ?_
      refine g_eqst (st1 := ([.int (nI (7 * z)), .int 48, .ref (adr 1)] : List Value)) (congrArg (fun z0 : Int32 => (([.int z0, .int 48, .ref (adr 1)] : List Value))) (mI_mul 7 z)) ?_
      refine g_iadd C dX7_find_37 ?_
      refine g_eqst (st1 := ([.int (nI (48 + (7 * z))), .ref (adr 1)] : List Value)) (congrArg (fun z0 : Int32 => (([.int z0, .ref (adr 1)] : List Value))) (mI_add 48 (7 * z))) ?_
      refine g_aload_n C 0 rfl dX7_find_38 ?_
      refine g_iload_n C 1 rfl dX7_find_39 ?_
      refine g_iconst C (-1) (by decide) dX7_find_40 ?_
      refine g_Vi C [.int (nI z), .int (-1)] 0 7 (by omega) h_4 rfl (c_X7_best l D kc N adr cell3 S Wa (fill S Bg 90) As tx (nI hn) (nI L) at' re nu mo sh σ z (-1) ⟨h_4, h_5, h_6, h_7, h_8, h_9, h_10, h_11, h_12⟩ (by omega) hS hG (by omega)) (cwV 2 C.2.2.2.2.1 gX7_find_X7_best rfl rfl rfl (by decide +kernel) ⟨Nat.le_of_ble_eq_true rfl, Nat.le_of_ble_eq_true rfl⟩) rfl rfl (Nat.le_of_ble_eq_true rfl) (Nat.zero_le _) (Nat.zero_le _) dX7_find_41 (fun v13 cell13 q13 => ?_)
      obtain ⟨rfl, rfl⟩ := q13
      refine g_iast C 1 (by omega) h_5 (vp_in_nI (by omega) (by omega)) dX7_find_44 ?_
      refine g_cell (fun cell14 ec14 => ?_)
      have h_15 : cell14 0 = .inr (7, [.ref (adr 1), .ref (adr 2), .ref (adr 3), .ref (adr 4), .int (nI hn), .ref (adr 5), .int (nI L), .int at', .int re, .ref (adr 6), .ref (adr 7), .ref (adr 8)]) := by rw [ec14, va_up_ne _ _ (by omega)]; exact h_4
      have h_16 : cell14 1 = .inl (kc 0, 90, .inl (upd S (nI (48 + (7 * z))).toNatClampNeg (bpF σ.1 σ.2.2.2.1 σ.2.2.2.2.2.2.1 (σ.2.2.2.2.2.2.2.2.2 z) (σ.2.2.2.2.2.2.2.1 z) (-1)))) := by rw [ec14]; exact va_up_self _ _ _
      have h_17 : cell14 2 = .inl (kc 0, 360, .inl Wa) := by rw [ec14, va_up_ne _ _ (by omega)]; exact h_6
      have h_18 : cell14 3 = .inl (kc 0, 90, .inl (fill S Bg 90)) := by rw [ec14, va_up_ne _ _ (by omega)]; exact h_7
      have h_19 : cell14 4 = .inl (kc 0, 90, .inl As) := by rw [ec14, va_up_ne _ _ (by omega)]; exact h_8
      have h_20 : cell14 5 = .inl (kc 1, 60, .inl tx) := by rw [ec14, va_up_ne _ _ (by omega)]; exact h_9
      have h_21 : cell14 6 = .inl (kc 0, 3, .inl nu) := by rw [ec14, va_up_ne _ _ (by omega)]; exact h_10
      have h_22 : cell14 7 = .inl (kc 0, 40, .inl mo) := by rw [ec14, va_up_ne _ _ (by omega)]; exact h_11
      have h_23 : cell14 8 = .inl (kc 0, 6, .inl sh) := by rw [ec14, va_up_ne _ _ (by omega)]; exact h_12
      have h_25 : cell14 1 = .inl (kc 0, 90, .inl (upd S (48 + (7 * z)) (bpF σ.1 σ.2.2.2.1 σ.2.2.2.2.2.2.1 (σ.2.2.2.2.2.2.2.2.2 z) (σ.2.2.2.2.2.2.2.1 z) (-1)))) := by rw [h_16, nI_clamp (by omega)]
      refine g_aload_n C 0 rfl dX7_find_45 ?_
      refine g_aload_n C 0 rfl dX7_find_46 ?_
      refine g_iload_n C 1 rfl dX7_find_47 ?_
      refine g_iconst C 0 (by decide) dX7_find_48 ?_
      refine g_Vi C [.int (nI z), .int 0] 0 7 (by omega) h_15 rfl (c_X7_an l D kc N adr cell14 (upd S (48 + (7 * z)) (bpF σ.1 σ.2.2.2.1 σ.2.2.2.2.2.2.1 (σ.2.2.2.2.2.2.2.2.2 z) (σ.2.2.2.2.2.2.2.1 z) (-1))) Wa (fill S Bg 90) As tx (nI hn) (nI L) at' re nu mo sh z 0 ⟨h_15, h_25, h_17, h_18, h_19, h_20, h_21, h_22, h_23⟩ (by omega) (by omega)) (cwV 2 C.2.2.2.2.1 gX7_find_X7_an rfl rfl rfl (by decide +kernel) ⟨Nat.le_of_ble_eq_true rfl, Nat.le_of_ble_eq_true rfl⟩) rfl rfl (Nat.le_of_ble_eq_true rfl) (Nat.zero_le _) (Nat.zero_le _) dX7_find_49 (fun v26 cell26 q26 => ?_)
      obtain ⟨rfl, rfl⟩ := q26
      refine g_eqst (st1 := ([.int (bpF σ.1 σ.2.2.2.1 σ.2.2.2.2.2.2.1 (σ.2.2.2.2.2.2.2.2.2 z) (σ.2.2.2.2.2.2.2.1 z) (-1)), .ref (adr 0)] : List Value)) (by rw [show upd S (48 + (7 * z)) (bpF σ.1 σ.2.2.2.1 σ.2.2.2.2.2.2.1 (σ.2.2.2.2.2.2.2.2.2 z) (σ.2.2.2.2.2.2.2.1 z) (-1)) (48 + 7 * z + 0) = bpF σ.1 σ.2.2.2.1 σ.2.2.2.2.2.2.1 (σ.2.2.2.2.2.2.2.2.2 z) (σ.2.2.2.2.2.2.2.1 z) (-1) from upd_s]) ?_
      refine g_Vi C [.int (bpF σ.1 σ.2.2.2.1 σ.2.2.2.2.2.2.1 (σ.2.2.2.2.2.2.2.2.2 z) (σ.2.2.2.2.2.2.2.1 z) (-1))] 0 7 (by omega) h_15 rfl (c_X7_acted l D kc N adr cell14 (upd S (48 + (7 * z)) (bpF σ.1 σ.2.2.2.1 σ.2.2.2.2.2.2.1 (σ.2.2.2.2.2.2.2.2.2 z) (σ.2.2.2.2.2.2.2.1 z) (-1))) Wa (fill S Bg 90) As tx (nI hn) (nI L) at' re nu mo sh (bpF σ.1 σ.2.2.2.1 σ.2.2.2.2.2.2.1 (σ.2.2.2.2.2.2.2.2.2 z) (σ.2.2.2.2.2.2.2.1 z) (-1)) hn ⟨h_15, h_25, h_17, h_18, h_19, h_20, h_21, h_22, h_23⟩ (by omega) rfl hh4) (cwV 1 C.2.2.2.2.1 gX7_find_X7_acted rfl rfl rfl (by decide +kernel) ⟨Nat.le_of_ble_eq_true rfl, Nat.le_of_ble_eq_true rfl⟩) rfl rfl (Nat.le_of_ble_eq_true rfl) (Nat.zero_le _) (Nat.zero_le _) dX7_find_52 (fun v28 cell28 q28 => ?_)
      obtain ⟨rfl, Wa1, ⟨h_29, h_30, h_31, h_32, h_33, h_34, h_35, h_36, h_37⟩, hw1, hw2⟩ := q28
      refine g_iret C hr rfl hlk dX7_find_55 ?_
      have hlo : ¬ aL σ z (aB σ z (-1)) = true := fun h => c17 (stand_2.mpr h)
      have hbp : aB σ z (-1) = -1 ∨ 0 ≤ (aB σ z (-1)).toInt := bp_ok hg1
      have hrb : -1000001 < (aB σ z (-1)).toInt := by
        rcases hbp with h | h
        · rw [h]; decide
        · omega
      have hO : findO σ x = some (goD z (aB σ z (-1)) σ) := by unfold findO; rw [hzz]; exact if_pos ⟨by unfold InA; omega, hlo⟩
      exact ⟨by unfold findR; rw [if_neg (by unfold InA; omega), hzz]; exact if_neg hlo, mat_act ⟨h_29, h_30, h_31, h_32, h_33, h_34, h_35, h_36, h_37⟩ (ms_yes hO (ms_go hS hg1 rfl)) (sg_some hO hrb) hBg hG hgh hH hw1 hw2 htx hh4 hL60⟩
    · -- not taken at 17
      have c17' := i_eq c17
      refine g_ldc C (-1000002) k99 dX7_find_20 ?_
      refine g_iret C hr rfl hlk dX7_find_22 ?_
      exact ⟨by unfold findR; rw [if_neg (by unfold InA; omega), hzz]; exact if_pos (stand_2.mp c17), MNx.no (by unfold findO; rw [hzz]; exact if_neg (fun h => h.2 (stand_2.mp c17))) hM0⟩
  · -- not taken at 5
    have c5' := bI_f c5
    refine g_ldc C (-1000001) k43 dX7_find_8 ?_
    refine g_iret C hr rfl hlk dX7_find_10 ?_
    exact ⟨by unfold findR; exact if_pos (by unfold InA; omega), MNx.no (by unfold findO; exact if_neg (fun h => by have h1 := h.1; unfold InA at h1; omega)) hM0⟩
set_option maxRecDepth 100000 in
set_option maxHeartbeats 4000000 in
theorem c_X7_findAll (l : Launch) (D : va_G) (kc : Nat → ClassId) (N : Nat) (adr : Nat → Nat) (cell : Nat → va_E) (σ : SD) (hn : Nat) (hi : Nat → SD) (L : Nat) (ch : Nat → Int32)  (hM : MAt cell adr kc σ hn hi L ch) (hG : Good σ) (hN : 9 ≤ N) (hgh : ∀ i, i < hn → Good (hi i)) : MI l yX7_findAll wsX7_findAll ({ frames := 6, cells := 0, slots := 0, locals := 140 }) D kc N adr cell [.ref (adr 0)] (fun (v : Int32) (cell1 : Nat → va_E) => findAllR σ = v ∧ MNx cell1 adr kc σ hn hi (findAllO σ) L ch) := by
  refine met_i (cc := cX7_findAll) (maxL := 4) (ret := (some .int)) (by decide) rfl (Nat.le_of_ble_eq_true rfl) (lv := [(0, .ref (adr 0))]) rfl ?_
  intro Pg Ev Sv Mi args below Me Cd Ar C hr hlk hnm
  have in7 : ∀ w ∈ u_ws RX7 TX7 12, w ∈ wsX7_findAll := by decide +kernel
  have f7 := C.2.2.2.2.1 (.fieldLink RX7 7 "WordAnchorsModel" "s" "[I") (by decide +kernel)
  have hM0 := hM
  obtain ⟨S, Wa, Bg, As, tx, at', re, nu, mo, sh, hB, hS, hH, htx, hh4, hL60⟩ := hM
  have hB0 := hB
  obtain ⟨m0, m1, m2, m3, m4, m5, m6, m7, m8⟩ := hB
  have hg1 := hG.1
  have hg2 := hG.2.1
  have e0 := hS.1
  have e1 := hS.2.1
  have litm1 : ((-1) : Int32).toInt = -1 := rfl
  have lit0 : (0 : Int32).toInt = 0 := rfl
  have lit1 : (1 : Int32).toInt = 1 := rfl
  have lit2 : (2 : Int32).toInt = 2 := rfl
  have lit7 : (7 : Int32).toInt = 7 := rfl
  have lit48 : (48 : Int32).toInt = 48 := rfl
  have tn___1 : (nI σ.1).toInt = ((σ.1 : Nat) : Int) := nI_toInt (by omega)
  have tn___2_1 : (nI σ.2.1).toInt = ((σ.2.1 : Nat) : Int) := nI_toInt (by omega)
  have tn_hn : (nI hn).toInt = ((hn : Nat) : Int) := nI_toInt (by omega)
  have tn_L : (nI L).toInt = ((L : Nat) : Int) := nI_toInt (by omega)
  refine g_aload_n C 0 rfl dX7_findAll_0 ?_
  refine g_Vv C [] 0 7 (by omega) m0 rfl (c_X7_keeps l D kc N adr cell S Wa Bg As tx (nI hn) (nI L) at' re nu mo sh ⟨m0, m1, m2, m3, m4, m5, m6, m7, m8⟩ (by omega)) (cwV 0 C.2.2.2.2.1 gX7_findAll_X7_keeps rfl rfl rfl (by decide +kernel) ⟨Nat.le_of_ble_eq_true rfl, Nat.le_of_ble_eq_true rfl⟩) rfl rfl (Nat.le_of_ble_eq_true rfl) (Nat.zero_le _) (Nat.zero_le _) dX7_findAll_1 (fun cell1 q1 => ?_)
  obtain ⟨h_2, h_3, h_4, h_5, h_6, h_7, h_8, h_9, h_10⟩ := q1
  have hBg : MS (fill S Bg 90) σ := ms_cong hS hg1 hg2 (fun j hj => fill_in hj)
  refine g_iconst C 0 (by decide) dX7_findAll_4 ?_
  refine g_istore_n C [(1, .int 0), (0, .ref (adr 0))] (by decide) rfl dX7_findAll_5 ?_
  refine g_iconst C 0 (by decide) dX7_findAll_6 ?_
  refine g_istore_n C [(2, .int 0), (1, .int 0), (0, .ref (adr 0))] (by decide) rfl dX7_findAll_7 ?_
  have L8 : ∀ (fu i : Nat) (cl : Nat → va_E) (Sl : Nat → Int32), i ≤ σ.2.1 → σ.2.1 < i + fu → (q0 : cl 0 = .inr (7, [.ref (adr 1), .ref (adr 2), .ref (adr 3), .ref (adr 4), .int (nI hn), .ref (adr 5), .int (nI L), .int at', .int re, .ref (adr 6), .ref (adr 7), .ref (adr 8)])) → (q1 : cl 1 = .inl (kc 0, 90, .inl Sl)) → (q2 : cl 2 = .inl (kc 0, 360, .inl Wa)) → (q3 : cl 3 = .inl (kc 0, 90, .inl (fill S Bg 90))) → (q4 : cl 4 = .inl (kc 0, 90, .inl As)) → (q5 : cl 5 = .inl (kc 1, 60, .inl tx)) → (q6 : cl 6 = .inl (kc 0, 3, .inl nu)) → (q7 : cl 7 = .inl (kc 0, 40, .inl mo)) → (q8 : cl 8 = .inl (kc 0, 6, .inl sh)) → (hsl : MS Sl (faD σ i)) → G Pg l Ev (headSpec wsX7_findAll { frames := 6, cells := 0, slots := 0, locals := 140 }).room Sv Mi args below Me Cd D N adr Ar Sv.heap 4 0 0 (MQ below (va_Qi (fun (v : Int32) (cell1 : Nat → va_E) => findAllR σ = v ∧ MNx cell1 adr kc σ hn hi (findAllO σ) L ch) (fun (cell1 : Nat → va_E) (t : State) => va_P D vwCl (wld N adr cell1) t.heap) Ar) args Sv 0 0 Ar) cl 8 [(0, .ref (adr 0)), (1, .int (nI (cnt (fun y0 => decide (¬ aH σ y0 = 0)) i))), (2, .int (nI i))] ([] : List Value) := by
    intro fu
    induction fu with
    | zero => intro i cl Sl hle hfu; exact absurd hfu (by omega)
    | succ fu ih =>
      intro i cl Sl hle8 hfu8 q0 q1 q2 q3 q4 q5 q6 q7 q8 hsl
      have tn_i : (nI i).toInt = ((i : Nat) : Int) := nI_toInt (by omega)
      refine g_iload_n C 2 rfl dX7_findAll_8 ?_
      refine g_aload_n C 0 rfl dX7_findAll_9 ?_
      refine g_get C 0 7 0 (by omega) q0 rfl in7 (by decide) f7 (fun _ h9 => h9) rfl dX7_findAll_10 ?_
      refine g_iconst C 1 (by decide) dX7_findAll_13 ?_
      refine g_iald C 1 (by omega) q1 (vp_in_iff.mpr (by omega)) dX7_findAll_14 ?_
      refine g_eqst (st1 := ([.int (Sl 1), .int (nI i)] : List Value)) rfl ?_
      refine g_eqst (show ([.int (Sl 1), .int (nI i)] : List Value) = ([.int (nI σ.2.1), .int (nI i)] : List Value) from by rw [show Sl 1 = nI σ.2.1 from hsl.2.1]) ?_
      refine g_icmp_ge C 80 (by decide) dX7_findAll_15 (fun c15 => ?_) (fun c15 => ?_)
      · -- taken at 15
        have c15' := i_le c15
        obtain rfl : σ.2.1 = i := by omega
        refine g_aload_n C 0 rfl dX7_findAll_80 ?_
        refine g_iload_n C 1 rfl dX7_findAll_81 ?_
        refine g_Vi C [.int (nI (cnt (fun y0 => decide (¬ aH σ y0 = 0)) σ.2.1))] 0 7 (by omega) q0 rfl (c_X7_acted l D kc N adr cl Sl Wa (fill S Bg 90) As tx (nI hn) (nI L) at' re nu mo sh (nI (cnt (fun y0 => decide (¬ aH σ y0 = 0)) σ.2.1)) hn ⟨q0, q1, q2, q3, q4, q5, q6, q7, q8⟩ (by omega) rfl hh4) (cwV 1 C.2.2.2.2.1 gX7_findAll_X7_acted rfl rfl rfl (by decide +kernel) ⟨Nat.le_of_ble_eq_true rfl, Nat.le_of_ble_eq_true rfl⟩) rfl rfl (Nat.le_of_ble_eq_true rfl) (Nat.zero_le _) (Nat.zero_le _) dX7_findAll_82 (fun v12 cell12 q12 => ?_)
        obtain ⟨rfl, Wa1, ⟨h_13, h_14, h_15, h_16, h_17, h_18, h_19, h_20, h_21⟩, hw1, hw2⟩ := q12
        refine g_iret C hr rfl hlk dX7_findAll_85 ?_
        have hO : findAllO σ = some (faD σ σ.2.1) := rfl
        exact ⟨rfl, mat_act ⟨h_13, h_14, h_15, h_16, h_17, h_18, h_19, h_20, h_21⟩ (ms_yes hO hsl) (sg_some hO (nI_sg (by have := cnt_le (fun k => decide (¬ aH σ k = 0)) σ.2.1; omega))) hBg hG hgh hH hw1 hw2 htx hh4 hL60⟩
      · -- not taken at 15
        have c15' := i_nle c15
        have hmi : (faD σ i).2.1 = σ.2.1 := rfl
        refine g_aload_n C 0 rfl dX7_findAll_18 ?_
        refine g_iload_n C 2 rfl dX7_findAll_19 ?_
        refine g_Vi C [.int (nI i)] 0 7 (by omega) q0 rfl (c_X7_how l D kc N adr cl Sl Wa (fill S Bg 90) As tx (nI hn) (nI L) at' re nu mo sh (faD σ i) i ⟨q0, q1, q2, q3, q4, q5, q6, q7, q8⟩ (by omega) hsl (good_fa (i := i) hG) (by omega)) (cwV 1 C.2.2.2.2.1 gX7_findAll_X7_how rfl rfl rfl (by decide +kernel) ⟨Nat.le_of_ble_eq_true rfl, Nat.le_of_ble_eq_true rfl⟩) rfl rfl (Nat.le_of_ble_eq_true rfl) (Nat.zero_le _) (Nat.zero_le _) dX7_findAll_20 (fun v22 cell22 q22 => ?_)
        obtain ⟨rfl, rfl⟩ := q22
        refine g_eqst (st1 := ([.int (aT σ i)] : List Value)) (by rw [show standF (faD σ i).1 (faD σ i).2.2.2.1 (faD σ i).2.2.2.2.2.2.1 ((faD σ i).2.2.2.2.2.2.2.2.2 i) ((faD σ i).2.2.2.2.2.2.2.1 i) = aT σ i from faT σ i]) ?_
        refine g_iconst C 2 (by decide) dX7_findAll_23 ?_
        refine g_icmp_ne C 36 (by decide) dX7_findAll_24 (fun c24 => ?_) (fun c24 => ?_)
        · -- taken at 24
          have c24' := i_ne c24
          refine g_aload_n C 0 rfl dX7_findAll_36 ?_
          refine g_iload_n C 2 rfl dX7_findAll_37 ?_
          refine g_iconst C (-1) (by decide) dX7_findAll_38 ?_
          refine g_Vi C [.int (nI i), .int (-1)] 0 7 (by omega) q0 rfl (c_X7_best l D kc N adr cl Sl Wa (fill S Bg 90) As tx (nI hn) (nI L) at' re nu mo sh (faD σ i) i (-1) ⟨q0, q1, q2, q3, q4, q5, q6, q7, q8⟩ (by omega) hsl (good_fa (i := i) hG) (by omega)) (cwV 2 C.2.2.2.2.1 gX7_findAll_X7_best rfl rfl rfl (by decide +kernel) ⟨Nat.le_of_ble_eq_true rfl, Nat.le_of_ble_eq_true rfl⟩) rfl rfl (Nat.le_of_ble_eq_true rfl) (Nat.zero_le _) (Nat.zero_le _) dX7_findAll_39 (fun v24 cell24 q24 => ?_)
          obtain ⟨rfl, rfl⟩ := q24
          refine g_eqst (st1 := ([.int (aB σ i (-1))] : List Value)) (by rw [show bpF (faD σ i).1 (faD σ i).2.2.2.1 (faD σ i).2.2.2.2.2.2.1 ((faD σ i).2.2.2.2.2.2.2.2.2 i) ((faD σ i).2.2.2.2.2.2.2.1 i) (-1) = aB σ i (-1) from faB σ i (-1)]) ?_
          refine g_istore_n C [(3, .int (aB σ i (-1))), (0, .ref (adr 0)), (1, .int (nI (cnt (fun y0 => decide (¬ aH σ y0 = 0)) i))), (2, .int (nI i))] (by decide) rfl dX7_findAll_42 ?_
          refine g_iload_n C 2 rfl dX7_findAll_43 ?_
          refine g_iload_n C 0 rfl dX7_findAll_44 ?_
          refine g_aload_n C 1 rfl dX7_findAll_45 ?_
          refine g_iload_n C 3 rfl dX7_findAll_46 ?_
          refine g_iconst C 0 (by decide) dX7_findAll_47 ?_
          refine g_Vi C [.int (nI i), .int 0] 0 7 (by omega) q0 rfl (c_X7_an l D kc N adr cl Sl Wa (fill S Bg 90) As tx (nI hn) (nI L) at' re nu mo sh i 0 ⟨q0, q1, q2, q3, q4, q5, q6, q7, q8⟩ (by omega) (by omega)) (cwV 2 C.2.2.2.2.1 gX7_findAll_X7_an rfl rfl rfl (by decide +kernel) ⟨Nat.le_of_ble_eq_true rfl, Nat.le_of_ble_eq_true rfl⟩) rfl rfl (Nat.le_of_ble_eq_true rfl) (Nat.zero_le _) (Nat.zero_le _) dX7_findAll_48 (fun v26 cell26 q26 => ?_)
          obtain ⟨rfl, rfl⟩ := q26
          refine g_eqst (st1 := ([.int (σ.2.2.2.2.2.2.2.1 i), .int (aB σ i (-1)), .int (nI (cnt (fun y0 => decide (¬ aH σ y0 = 0)) i))] : List Value)) (by rw [show Sl (48 + 7 * i + 0) = σ.2.2.2.2.2.2.2.1 i from ((hsl.2.2.2.2.2 i (by omega)).1).trans faQ]) ?_
          refine g_icmp_eq C 58 (by decide) dX7_findAll_51 (fun c51 => ?_) (fun c51 => ?_)
          · -- taken at 51
            have c51' := i_eq c51
            refine g_iconst C 0 (by decide) dX7_findAll_58 ?_
            refine g_iadd C dX7_findAll_59 ?_
            refine g_eqst (st1 := ([.int (nI (cnt (fun y0 => decide (¬ aH σ y0 = 0)) i + 0))] : List Value)) (congrArg (fun z0 : Int32 => (([.int z0] : List Value))) (mI_add (cnt (fun y0 => decide (¬ aH σ y0 = 0)) i) 0)) ?_
            refine g_istore_n C [(1, .int (nI (cnt (fun y0 => decide (¬ aH σ y0 = 0)) i + 0))), (3, .int (aB σ i (-1))), (0, .ref (adr 0)), (2, .int (nI i))] (by decide) rfl dX7_findAll_60 ?_
            refine g_aload_n C 2 rfl dX7_findAll_61 ?_
            refine g_get C 0 7 0 (by omega) q0 rfl in7 (by decide) f7 (fun _ h9 => h9) rfl dX7_findAll_62 ?_
            refine g_bipush C 48 (by decide) dX7_findAll_65 ?_
            refine g_bipush C 7 (by decide) dX7_findAll_67 ?_
            refine g_iload_n C 3 rfl dX7_findAll_69 ?_
            refine g_imul C dX7_findAll_70 ?_
            refine g_eqst (st1 := ([.int (nI (7 * i)), .int 48, .ref (adr 1)] : List Value)) (congrArg (fun z0 : Int32 => (([.int z0, .int 48, .ref (adr 1)] : List Value))) (mI_mul 7 i)) ?_
            refine g_iadd C dX7_findAll_71 ?_
            refine g_eqst (st1 := ([.int (nI (48 + (7 * i))), .ref (adr 1)] : List Value)) (congrArg (fun z0 : Int32 => (([.int z0, .ref (adr 1)] : List Value))) (mI_add 48 (7 * i))) ?_
            refine g_iload_n C 1 rfl dX7_findAll_72 ?_
            refine g_iast C 1 (by omega) q1 (vp_in_nI (by omega) (by omega)) dX7_findAll_73 ?_
            refine g_cell (fun cell28 ec28 => ?_)
            have h_29 : cell28 0 = .inr (7, [.ref (adr 1), .ref (adr 2), .ref (adr 3), .ref (adr 4), .int (nI hn), .ref (adr 5), .int (nI L), .int at', .int re, .ref (adr 6), .ref (adr 7), .ref (adr 8)]) := by rw [ec28, va_up_ne _ _ (by omega)]; exact q0
            have h_30 : cell28 1 = .inl (kc 0, 90, .inl (upd Sl (nI (48 + (7 * i))).toNatClampNeg (aB σ i (-1)))) := by rw [ec28]; exact va_up_self _ _ _
            have h_31 : cell28 2 = .inl (kc 0, 360, .inl Wa) := by rw [ec28, va_up_ne _ _ (by omega)]; exact q2
            have h_32 : cell28 3 = .inl (kc 0, 90, .inl (fill S Bg 90)) := by rw [ec28, va_up_ne _ _ (by omega)]; exact q3
            have h_33 : cell28 4 = .inl (kc 0, 90, .inl As) := by rw [ec28, va_up_ne _ _ (by omega)]; exact q4
            have h_34 : cell28 5 = .inl (kc 1, 60, .inl tx) := by rw [ec28, va_up_ne _ _ (by omega)]; exact q5
            have h_35 : cell28 6 = .inl (kc 0, 3, .inl nu) := by rw [ec28, va_up_ne _ _ (by omega)]; exact q6
            have h_36 : cell28 7 = .inl (kc 0, 40, .inl mo) := by rw [ec28, va_up_ne _ _ (by omega)]; exact q7
            have h_37 : cell28 8 = .inl (kc 0, 6, .inl sh) := by rw [ec28, va_up_ne _ _ (by omega)]; exact q8
            have h_39 : cell28 1 = .inl (kc 0, 90, .inl (upd Sl (48 + (7 * i)) (aB σ i (-1)))) := by rw [h_30, nI_clamp (by omega)]
            refine g_iinc C 3 [(2, .int (nI (i + 1))), (1, .int (nI (cnt (fun y0 => decide (¬ aH σ y0 = 0)) i + 0))), (3, .int (aB σ i (-1))), (0, .ref (adr 0))] rfl (iinc_nI i) (by decide) rfl dX7_findAll_74 ?_
            refine g_goto C 8 (by decide) dX7_findAll_77 ?_
            have hfa := fa_f c24
            have hb : MS (upd Sl (48 + (7 * i)) (aB σ i (-1))) (faD σ (i + 1)) := ms_fa hsl hg1 rfl hfa.2
            have hbc : nI (cnt (fun y0 => decide (¬ aH σ y0 = 0)) i + 0) = nI (cnt (fun y0 => decide (¬ aH σ y0 = 0)) (i + 1)) := cnt_no (by rw [decide_eq_true_eq, hfa.1, c51, Int32.sub_self]; exact fun h => h rfl)
            refine g_sub [3, 1, 0] rfl ?_
            have ev_40 : nI (cnt (fun y0 => decide (¬ aH σ y0 = 0)) i + 0) = nI (cnt (fun y0 => decide (¬ aH σ y0 = 0)) (i + 1)) := by exact hbc
            refine g_eqlv (lv1 := [(0, .ref (adr 0)), (1, .int (nI (cnt (fun y0 => decide (¬ aH σ y0 = 0)) (i + 1)))), (2, .int (nI (i + 1)))]) (congrArg (fun z0 : Int32 => ([(0, .ref (adr 0)), (1, .int z0), (2, .int (nI (i + 1)))] : List (Nat × Value))) ev_40) ?_
            exact ih (i + 1) _ _ (by omega) (by omega) h_29 h_39 h_31 h_32 h_33 h_34 h_35 h_36 h_37 hb
          · -- not taken at 51
            have c51' := i_ne c51
            
            refine g_iconst C 1 (by decide) dX7_findAll_54 ?_
            refine g_goto C 59 (by decide) dX7_findAll_55 ?_
            refine g_iadd C dX7_findAll_59 ?_
            refine g_eqst (st1 := ([.int (nI (cnt (fun y0 => decide (¬ aH σ y0 = 0)) i + 1))] : List Value)) (congrArg (fun z0 : Int32 => (([.int z0] : List Value))) (mI_add (cnt (fun y0 => decide (¬ aH σ y0 = 0)) i) 1)) ?_
            refine g_istore_n C [(1, .int (nI (cnt (fun y0 => decide (¬ aH σ y0 = 0)) i + 1))), (3, .int (aB σ i (-1))), (0, .ref (adr 0)), (2, .int (nI i))] (by decide) rfl dX7_findAll_60 ?_
            refine g_aload_n C 2 rfl dX7_findAll_61 ?_
            refine g_get C 0 7 0 (by omega) q0 rfl in7 (by decide) f7 (fun _ h9 => h9) rfl dX7_findAll_62 ?_
            refine g_bipush C 48 (by decide) dX7_findAll_65 ?_
            refine g_bipush C 7 (by decide) dX7_findAll_67 ?_
            refine g_iload_n C 3 rfl dX7_findAll_69 ?_
            refine g_imul C dX7_findAll_70 ?_
            refine g_eqst (st1 := ([.int (nI (7 * i)), .int 48, .ref (adr 1)] : List Value)) (congrArg (fun z0 : Int32 => (([.int z0, .int 48, .ref (adr 1)] : List Value))) (mI_mul 7 i)) ?_
            refine g_iadd C dX7_findAll_71 ?_
            refine g_eqst (st1 := ([.int (nI (48 + (7 * i))), .ref (adr 1)] : List Value)) (congrArg (fun z0 : Int32 => (([.int z0, .ref (adr 1)] : List Value))) (mI_add 48 (7 * i))) ?_
            refine g_iload_n C 1 rfl dX7_findAll_72 ?_
            refine g_iast C 1 (by omega) q1 (vp_in_nI (by omega) (by omega)) dX7_findAll_73 ?_
            refine g_cell (fun cell41 ec41 => ?_)
            have h_42 : cell41 0 = .inr (7, [.ref (adr 1), .ref (adr 2), .ref (adr 3), .ref (adr 4), .int (nI hn), .ref (adr 5), .int (nI L), .int at', .int re, .ref (adr 6), .ref (adr 7), .ref (adr 8)]) := by rw [ec41, va_up_ne _ _ (by omega)]; exact q0
            have h_43 : cell41 1 = .inl (kc 0, 90, .inl (upd Sl (nI (48 + (7 * i))).toNatClampNeg (aB σ i (-1)))) := by rw [ec41]; exact va_up_self _ _ _
            have h_44 : cell41 2 = .inl (kc 0, 360, .inl Wa) := by rw [ec41, va_up_ne _ _ (by omega)]; exact q2
            have h_45 : cell41 3 = .inl (kc 0, 90, .inl (fill S Bg 90)) := by rw [ec41, va_up_ne _ _ (by omega)]; exact q3
            have h_46 : cell41 4 = .inl (kc 0, 90, .inl As) := by rw [ec41, va_up_ne _ _ (by omega)]; exact q4
            have h_47 : cell41 5 = .inl (kc 1, 60, .inl tx) := by rw [ec41, va_up_ne _ _ (by omega)]; exact q5
            have h_48 : cell41 6 = .inl (kc 0, 3, .inl nu) := by rw [ec41, va_up_ne _ _ (by omega)]; exact q6
            have h_49 : cell41 7 = .inl (kc 0, 40, .inl mo) := by rw [ec41, va_up_ne _ _ (by omega)]; exact q7
            have h_50 : cell41 8 = .inl (kc 0, 6, .inl sh) := by rw [ec41, va_up_ne _ _ (by omega)]; exact q8
            have h_52 : cell41 1 = .inl (kc 0, 90, .inl (upd Sl (48 + (7 * i)) (aB σ i (-1)))) := by rw [h_43, nI_clamp (by omega)]
            refine g_iinc C 3 [(2, .int (nI (i + 1))), (1, .int (nI (cnt (fun y0 => decide (¬ aH σ y0 = 0)) i + 1))), (3, .int (aB σ i (-1))), (0, .ref (adr 0))] rfl (iinc_nI i) (by decide) rfl dX7_findAll_74 ?_
            refine g_goto C 8 (by decide) dX7_findAll_77 ?_
            have hfa := fa_f c24
            have hb : MS (upd Sl (48 + (7 * i)) (aB σ i (-1))) (faD σ (i + 1)) := ms_fa hsl hg1 rfl hfa.2
            have hbc : nI (cnt (fun y0 => decide (¬ aH σ y0 = 0)) i + 1) = nI (cnt (fun y0 => decide (¬ aH σ y0 = 0)) (i + 1)) := cnt_yes (decide_eq_true (fun h => c51 (by rw [hfa.2, h, Int32.add_zero])))
            refine g_sub [3, 1, 0] rfl ?_
            have ev_53 : nI (cnt (fun y0 => decide (¬ aH σ y0 = 0)) i + 1) = nI (cnt (fun y0 => decide (¬ aH σ y0 = 0)) (i + 1)) := by exact hbc
            refine g_eqlv (lv1 := [(0, .ref (adr 0)), (1, .int (nI (cnt (fun y0 => decide (¬ aH σ y0 = 0)) (i + 1)))), (2, .int (nI (i + 1)))]) (congrArg (fun z0 : Int32 => ([(0, .ref (adr 0)), (1, .int z0), (2, .int (nI (i + 1)))] : List (Nat × Value))) ev_53) ?_
            exact ih (i + 1) _ _ (by omega) (by omega) h_42 h_52 h_44 h_45 h_46 h_47 h_48 h_49 h_50 hb
        · -- not taken at 24
          have c24' := i_eq c24
          refine g_aload_n C 0 rfl dX7_findAll_27 ?_
          refine g_iload_n C 2 rfl dX7_findAll_28 ?_
          refine g_iconst C 0 (by decide) dX7_findAll_29 ?_
          refine g_Vi C [.int (nI i), .int 0] 0 7 (by omega) q0 rfl (c_X7_an l D kc N adr cl Sl Wa (fill S Bg 90) As tx (nI hn) (nI L) at' re nu mo sh i 0 ⟨q0, q1, q2, q3, q4, q5, q6, q7, q8⟩ (by omega) (by omega)) (cwV 2 C.2.2.2.2.1 gX7_findAll_X7_an rfl rfl rfl (by decide +kernel) ⟨Nat.le_of_ble_eq_true rfl, Nat.le_of_ble_eq_true rfl⟩) rfl rfl (Nat.le_of_ble_eq_true rfl) (Nat.zero_le _) (Nat.zero_le _) dX7_findAll_30 (fun v54 cell54 q54 => ?_)
          obtain ⟨rfl, rfl⟩ := q54
          refine g_eqst (st1 := ([.int (σ.2.2.2.2.2.2.2.1 i)] : List Value)) (by rw [show Sl (48 + 7 * i + 0) = σ.2.2.2.2.2.2.2.1 i from ((hsl.2.2.2.2.2 i (by omega)).1).trans faQ]) ?_
          refine g_goto C 42 (by decide) dX7_findAll_33 ?_
          refine g_istore_n C [(3, .int (σ.2.2.2.2.2.2.2.1 i)), (0, .ref (adr 0)), (1, .int (nI (cnt (fun y0 => decide (¬ aH σ y0 = 0)) i))), (2, .int (nI i))] (by decide) rfl dX7_findAll_42 ?_
          refine g_iload_n C 2 rfl dX7_findAll_43 ?_
          refine g_iload_n C 0 rfl dX7_findAll_44 ?_
          refine g_aload_n C 1 rfl dX7_findAll_45 ?_
          refine g_iload_n C 3 rfl dX7_findAll_46 ?_
          refine g_iconst C 0 (by decide) dX7_findAll_47 ?_
          refine g_Vi C [.int (nI i), .int 0] 0 7 (by omega) q0 rfl (c_X7_an l D kc N adr cl Sl Wa (fill S Bg 90) As tx (nI hn) (nI L) at' re nu mo sh i 0 ⟨q0, q1, q2, q3, q4, q5, q6, q7, q8⟩ (by omega) (by omega)) (cwV 2 C.2.2.2.2.1 gX7_findAll_X7_an rfl rfl rfl (by decide +kernel) ⟨Nat.le_of_ble_eq_true rfl, Nat.le_of_ble_eq_true rfl⟩) rfl rfl (Nat.le_of_ble_eq_true rfl) (Nat.zero_le _) (Nat.zero_le _) dX7_findAll_48 (fun v56 cell56 q56 => ?_)
          obtain ⟨rfl, rfl⟩ := q56
          refine g_eqst (st1 := ([.int (σ.2.2.2.2.2.2.2.1 i), .int (σ.2.2.2.2.2.2.2.1 i), .int (nI (cnt (fun y0 => decide (¬ aH σ y0 = 0)) i))] : List Value)) (by rw [show Sl (48 + 7 * i + 0) = σ.2.2.2.2.2.2.2.1 i from ((hsl.2.2.2.2.2 i (by omega)).1).trans faQ]) ?_
          refine g_icmp_eq C 58 (by decide) dX7_findAll_51 (fun c51 => ?_) (fun c51 => ?_)
          · -- taken at 51
            have c51' := i_eq c51
            refine g_iconst C 0 (by decide) dX7_findAll_58 ?_
            refine g_iadd C dX7_findAll_59 ?_
            refine g_eqst (st1 := ([.int (nI (cnt (fun y0 => decide (¬ aH σ y0 = 0)) i + 0))] : List Value)) (congrArg (fun z0 : Int32 => (([.int z0] : List Value))) (mI_add (cnt (fun y0 => decide (¬ aH σ y0 = 0)) i) 0)) ?_
            refine g_istore_n C [(1, .int (nI (cnt (fun y0 => decide (¬ aH σ y0 = 0)) i + 0))), (3, .int (σ.2.2.2.2.2.2.2.1 i)), (0, .ref (adr 0)), (2, .int (nI i))] (by decide) rfl dX7_findAll_60 ?_
            refine g_aload_n C 2 rfl dX7_findAll_61 ?_
            refine g_get C 0 7 0 (by omega) q0 rfl in7 (by decide) f7 (fun _ h9 => h9) rfl dX7_findAll_62 ?_
            refine g_bipush C 48 (by decide) dX7_findAll_65 ?_
            refine g_bipush C 7 (by decide) dX7_findAll_67 ?_
            refine g_iload_n C 3 rfl dX7_findAll_69 ?_
            refine g_imul C dX7_findAll_70 ?_
            refine g_eqst (st1 := ([.int (nI (7 * i)), .int 48, .ref (adr 1)] : List Value)) (congrArg (fun z0 : Int32 => (([.int z0, .int 48, .ref (adr 1)] : List Value))) (mI_mul 7 i)) ?_
            refine g_iadd C dX7_findAll_71 ?_
            refine g_eqst (st1 := ([.int (nI (48 + (7 * i))), .ref (adr 1)] : List Value)) (congrArg (fun z0 : Int32 => (([.int z0, .ref (adr 1)] : List Value))) (mI_add 48 (7 * i))) ?_
            refine g_iload_n C 1 rfl dX7_findAll_72 ?_
            refine g_iast C 1 (by omega) q1 (vp_in_nI (by omega) (by omega)) dX7_findAll_73 ?_
            refine g_cell (fun cell58 ec58 => ?_)
            have h_59 : cell58 0 = .inr (7, [.ref (adr 1), .ref (adr 2), .ref (adr 3), .ref (adr 4), .int (nI hn), .ref (adr 5), .int (nI L), .int at', .int re, .ref (adr 6), .ref (adr 7), .ref (adr 8)]) := by rw [ec58, va_up_ne _ _ (by omega)]; exact q0
            have h_60 : cell58 1 = .inl (kc 0, 90, .inl (upd Sl (nI (48 + (7 * i))).toNatClampNeg (σ.2.2.2.2.2.2.2.1 i))) := by rw [ec58]; exact va_up_self _ _ _
            have h_61 : cell58 2 = .inl (kc 0, 360, .inl Wa) := by rw [ec58, va_up_ne _ _ (by omega)]; exact q2
            have h_62 : cell58 3 = .inl (kc 0, 90, .inl (fill S Bg 90)) := by rw [ec58, va_up_ne _ _ (by omega)]; exact q3
            have h_63 : cell58 4 = .inl (kc 0, 90, .inl As) := by rw [ec58, va_up_ne _ _ (by omega)]; exact q4
            have h_64 : cell58 5 = .inl (kc 1, 60, .inl tx) := by rw [ec58, va_up_ne _ _ (by omega)]; exact q5
            have h_65 : cell58 6 = .inl (kc 0, 3, .inl nu) := by rw [ec58, va_up_ne _ _ (by omega)]; exact q6
            have h_66 : cell58 7 = .inl (kc 0, 40, .inl mo) := by rw [ec58, va_up_ne _ _ (by omega)]; exact q7
            have h_67 : cell58 8 = .inl (kc 0, 6, .inl sh) := by rw [ec58, va_up_ne _ _ (by omega)]; exact q8
            have h_69 : cell58 1 = .inl (kc 0, 90, .inl (upd Sl (48 + (7 * i)) (σ.2.2.2.2.2.2.2.1 i))) := by rw [h_60, nI_clamp (by omega)]
            refine g_iinc C 3 [(2, .int (nI (i + 1))), (1, .int (nI (cnt (fun y0 => decide (¬ aH σ y0 = 0)) i + 0))), (3, .int (σ.2.2.2.2.2.2.2.1 i)), (0, .ref (adr 0))] rfl (iinc_nI i) (by decide) rfl dX7_findAll_74 ?_
            refine g_goto C 8 (by decide) dX7_findAll_77 ?_
            have hfa := fa_l c24
            have hb : MS (upd Sl (48 + (7 * i)) (σ.2.2.2.2.2.2.2.1 i)) (faD σ (i + 1)) := ms_fa hsl hg1 rfl hfa.2
            have hbc : nI (cnt (fun y0 => decide (¬ aH σ y0 = 0)) i + 0) = nI (cnt (fun y0 => decide (¬ aH σ y0 = 0)) (i + 1)) := cnt_no (by rw [decide_eq_true_eq]; exact fun h => h hfa.1)
            refine g_sub [3, 1, 0] rfl ?_
            have ev_70 : nI (cnt (fun y0 => decide (¬ aH σ y0 = 0)) i + 0) = nI (cnt (fun y0 => decide (¬ aH σ y0 = 0)) (i + 1)) := by exact hbc
            refine g_eqlv (lv1 := [(0, .ref (adr 0)), (1, .int (nI (cnt (fun y0 => decide (¬ aH σ y0 = 0)) (i + 1)))), (2, .int (nI (i + 1)))]) (congrArg (fun z0 : Int32 => ([(0, .ref (adr 0)), (1, .int z0), (2, .int (nI (i + 1)))] : List (Nat × Value))) ev_70) ?_
            exact ih (i + 1) _ _ (by omega) (by omega) h_59 h_69 h_61 h_62 h_63 h_64 h_65 h_66 h_67 hb
          · -- not taken at 51
            have c51' := i_ne c51
            exact absurd rfl c51 --done
  refine g_sub [2, 1, 0] rfl ?_
  have ev_71 : 0 = nI (cnt (fun y0 => decide (¬ aH σ y0 = 0)) 0) := by rfl
  refine g_eqlv (lv1 := [(0, .ref (adr 0)), (1, .int (nI (cnt (fun y0 => decide (¬ aH σ y0 = 0)) 0))), (2, .int 0)]) (congrArg (fun z0 : Int32 => ([(0, .ref (adr 0)), (1, .int z0), (2, .int 0)] : List (Nat × Value))) ev_71) ?_
  exact L8 (σ.2.1 + 1) 0 _ _ (by omega) (by omega) h_2 h_3 h_4 h_5 h_6 h_7 h_8 h_9 h_10 (by rw [show faD σ 0 = σ from by simp [faD]]; exact hS)
set_option maxRecDepth 100000 in
set_option maxHeartbeats 4000000 in
theorem c_X7_remember (l : Launch) (D : va_G) (kc : Nat → ClassId) (N : Nat) (adr : Nat → Nat) (cell : Nat → va_E) (σ : SD) (hn : Nat) (hi : Nat → SD) (L : Nat) (ch : Nat → Int32) (x : Int32) (hM : MAt cell adr kc σ hn hi L ch) (hG : Good σ) (hN : 9 ≤ N) (hgh : ∀ i, i < hn → Good (hi i)) : MI l yX7_remember wsX7_remember ({ frames := 4, cells := 0, slots := 0, locals := 88 }) D kc N adr cell [.ref (adr 0), .int x] (fun (v : Int32) (cell1 : Nat → va_E) => rememberR σ x = v ∧ MNx cell1 adr kc σ hn hi (rememberO σ x) L ch) := by
  refine met_i (cc := cX7_remember) (maxL := 2) (ret := (some .int)) (by decide) rfl (Nat.le_of_ble_eq_true rfl) (lv := [(0, .ref (adr 0)), (1, .int x)]) rfl ?_
  intro Pg Ev Sv Mi args below Me Cd Ar C hr hlk hnm
  have k99 := C.2.2.2.2.1 (.constant RX7 99 (-1000002)) (by decide +kernel)
  have k43 := C.2.2.2.2.1 (.constant RX7 43 (-1000001)) (by decide +kernel)
  have hM0 := hM
  obtain ⟨S, Wa, Bg, As, tx, at', re, nu, mo, sh, hB, hS, hH, htx, hh4, hL60⟩ := hM
  have hB0 := hB
  obtain ⟨m0, m1, m2, m3, m4, m5, m6, m7, m8⟩ := hB
  have hg1 := hG.1
  have hg2 := hG.2.1
  have e0 := hS.1
  have e1 := hS.2.1
  have litm1000002 : ((-1000002) : Int32).toInt = -1000002 := rfl
  have litm1000001 : ((-1000001) : Int32).toInt = -1000001 := rfl
  have litm1 : ((-1) : Int32).toInt = -1 := rfl
  have lit0 : (0 : Int32).toInt = 0 := rfl
  have lit1 : (1 : Int32).toInt = 1 := rfl
  have tn___1 : (nI σ.1).toInt = ((σ.1 : Nat) : Int) := nI_toInt (by omega)
  have tn___2_1 : (nI σ.2.1).toInt = ((σ.2.1 : Nat) : Int) := nI_toInt (by omega)
  have tn_hn : (nI hn).toInt = ((hn : Nat) : Int) := nI_toInt (by omega)
  have tn_L : (nI L).toInt = ((L : Nat) : Int) := nI_toInt (by omega)
  refine g_aload_n C 0 rfl dX7_remember_0 ?_
  refine g_iload_n C 1 rfl dX7_remember_1 ?_
  refine g_Vi C [.int x] 0 7 (by omega) m0 rfl (c_X7_isAnchor l D kc N adr cell S Wa Bg As tx (nI hn) (nI L) at' re nu mo sh σ x ⟨m0, m1, m2, m3, m4, m5, m6, m7, m8⟩ (by omega) hS hG.1 hG.2.1) (cwV 1 C.2.2.2.2.1 gX7_remember_X7_isAnchor rfl rfl rfl (by decide +kernel) ⟨Nat.le_of_ble_eq_true rfl, Nat.le_of_ble_eq_true rfl⟩) rfl rfl (Nat.le_of_ble_eq_true rfl) (Nat.zero_le _) (Nat.zero_le _) dX7_remember_2 (fun v1 cell1 q1 => ?_)
  obtain ⟨rfl, rfl⟩ := q1
  refine g_if_ne C 11 (by decide) dX7_remember_5 (fun c5 => ?_) (fun c5 => ?_)
  · -- taken at 5
    have c5' := bI_t c5
    have ez : x = nI x.toNatClampNeg := nI_cl (by omega)
    have kz := cl_toInt (x := x) (by omega)
    generalize hzz : x.toNatClampNeg = z at ez kz
    refine g_eqlv (lv1 := [(0, .ref (adr 0)), (1, .int (nI z))]) (congrArg (fun z0 : Int32 => ([(0, .ref (adr 0)), (1, .int z0)] : List (Nat × Value))) ez) ?_
    refine g_aload_n C 0 rfl dX7_remember_11 ?_
    refine g_aload_n C 0 rfl dX7_remember_12 ?_
    refine g_iload_n C 1 rfl dX7_remember_13 ?_
    refine g_iconst C 0 (by decide) dX7_remember_14 ?_
    refine g_Vi C [.int (nI z), .int 0] 0 7 (by omega) m0 rfl (c_X7_an l D kc N adr cell S Wa Bg As tx (nI hn) (nI L) at' re nu mo sh z 0 ⟨m0, m1, m2, m3, m4, m5, m6, m7, m8⟩ (by omega) (by omega)) (cwV 2 C.2.2.2.2.1 gX7_remember_X7_an rfl rfl rfl (by decide +kernel) ⟨Nat.le_of_ble_eq_true rfl, Nat.le_of_ble_eq_true rfl⟩) rfl rfl (Nat.le_of_ble_eq_true rfl) (Nat.zero_le _) (Nat.zero_le _) dX7_remember_15 (fun v2 cell2 q2 => ?_)
    obtain ⟨rfl, rfl⟩ := q2
    refine g_eqst (st1 := ([.int (σ.2.2.2.2.2.2.2.1 z), .ref (adr 0)] : List Value)) (by rw [show S (48 + 7 * z + 0) = σ.2.2.2.2.2.2.2.1 z from (hS.2.2.2.2.2 z (by omega)).1]) ?_
    refine g_Vi C [.int (σ.2.2.2.2.2.2.2.1 z)] 0 7 (by omega) m0 rfl (c_X7_isPlace l D kc N adr cell S Wa Bg As tx (nI hn) (nI L) at' re nu mo sh σ (σ.2.2.2.2.2.2.2.1 z) ⟨m0, m1, m2, m3, m4, m5, m6, m7, m8⟩ (by omega) hS hG.1 hG.2.1) (cwV 1 C.2.2.2.2.1 gX7_remember_X7_isPlace rfl rfl rfl (by decide +kernel) ⟨Nat.le_of_ble_eq_true rfl, Nat.le_of_ble_eq_true rfl⟩) rfl rfl (Nat.le_of_ble_eq_true rfl) (Nat.zero_le _) (Nat.zero_le _) dX7_remember_18 (fun v4 cell4 q4 => ?_)
    obtain ⟨rfl, rfl⟩ := q4
    refine g_if_ne C 27 (by decide) dX7_remember_21 (fun c21 => ?_) (fun c21 => ?_)
    · -- taken at 21
      have c21' := bI_t c21
      refine g_aload_n C 0 rfl dX7_remember_27 ?_
      refine g_Vv C [] 0 7 (by omega) m0 rfl (c_X7_keeps l D kc N adr cell S Wa Bg As tx (nI hn) (nI L) at' re nu mo sh ⟨m0, m1, m2, m3, m4, m5, m6, m7, m8⟩ (by omega)) (cwV 0 C.2.2.2.2.1 gX7_remember_X7_keeps rfl rfl rfl (by decide +kernel) ⟨Nat.le_of_ble_eq_true rfl, Nat.le_of_ble_eq_true rfl⟩) rfl rfl (Nat.le_of_ble_eq_true rfl) (Nat.zero_le _) (Nat.zero_le _) dX7_remember_28 (fun cell5 q5 => ?_)
      obtain ⟨h_6, h_7, h_8, h_9, h_10, h_11, h_12, h_13, h_14⟩ := q5
      have hBg : MS (fill S Bg 90) σ := ms_cong hS hg1 hg2 (fun j hj => fill_in hj)
      refine g_aload_n C 0 rfl dX7_remember_31 ?_
      refine g_aload_n C 0 rfl dX7_remember_32 ?_
      refine g_iload_n C 1 rfl dX7_remember_33 ?_
      refine g_Vi C [.int (nI z)] 0 7 (by omega) h_6 rfl (c_X7_remembers l D kc N adr cell5 S Wa (fill S Bg 90) As tx (nI hn) (nI L) at' re nu mo sh σ z (σ.2.2.2.2.2.2.2.1 z) ⟨h_6, h_7, h_8, h_9, h_10, h_11, h_12, h_13, h_14⟩ (by omega) hS hg1 hg2 (by omega) (hS.2.2.2.2.2 z (by omega)).1) (cwV 1 C.2.2.2.2.1 gX7_remember_X7_remembers rfl rfl rfl (by decide +kernel) ⟨Nat.le_of_ble_eq_true rfl, Nat.le_of_ble_eq_true rfl⟩) rfl rfl (Nat.le_of_ble_eq_true rfl) (Nat.zero_le _) (Nat.zero_le _) dX7_remember_34 (fun v15 cell15 q15 => ?_)
      obtain ⟨rfl, S1, ⟨h_16, h_17, h_18, h_19, h_20, h_21, h_22, h_23, h_24⟩, hq1, hq2, hq3⟩ := q15
      refine g_Vi C [.int (nI (cnt (fun j => decide (¬ S (50 + 7 * z + j) = lookF σ.1 σ.2.2.2.1 (σ.2.2.2.2.2.2.2.1 z) j)) 5))] 0 7 (by omega) h_16 rfl (c_X7_acted l D kc N adr cell15 S1 Wa (fill S Bg 90) As tx (nI hn) (nI L) at' re nu mo sh (nI (cnt (fun j => decide (¬ S (50 + 7 * z + j) = lookF σ.1 σ.2.2.2.1 (σ.2.2.2.2.2.2.2.1 z) j)) 5)) hn ⟨h_16, h_17, h_18, h_19, h_20, h_21, h_22, h_23, h_24⟩ (by omega) rfl hh4) (cwV 1 C.2.2.2.2.1 gX7_remember_X7_acted rfl rfl rfl (by decide +kernel) ⟨Nat.le_of_ble_eq_true rfl, Nat.le_of_ble_eq_true rfl⟩) rfl rfl (Nat.le_of_ble_eq_true rfl) (Nat.zero_le _) (Nat.zero_le _) dX7_remember_37 (fun v25 cell25 q25 => ?_)
      obtain ⟨rfl, Wa1, ⟨h_26, h_27, h_28, h_29, h_30, h_31, h_32, h_33, h_34⟩, hw1, hw2⟩ := q25
      refine g_iret C hr rfl hlk dX7_remember_40 ?_
      have hcc : cnt (fun j => decide (¬ S (50 + 7 * z + j) = lookF σ.1 σ.2.2.2.1 (σ.2.2.2.2.2.2.2.1 z) j)) 5 = cnt (fun j => decide (¬ σ.2.2.2.2.2.2.2.2.2 z j = lookF σ.1 σ.2.2.2.1 (σ.2.2.2.2.2.2.2.1 z) j)) 5 := cnt_cong (fun j hj => by show decide (¬ S (50 + 7 * z + j) = _) = decide (¬ σ.2.2.2.2.2.2.2.2.2 z j = _); rw [(hS.2.2.2.2.2 z (by omega)).2.2 j hj])
      have hcl := cnt_le (fun j => decide (¬ S (50 + 7 * z + j) = lookF σ.1 σ.2.2.2.1 (σ.2.2.2.2.2.2.2.1 z) j)) 5
      have hO : rememberO σ x = some (remembD z σ) := by unfold rememberO; rw [hzz]; exact if_pos ⟨by unfold InA; omega, by omega⟩
      exact ⟨by unfold rememberR; rw [if_neg (by unfold InA; omega), hzz, if_neg (by omega), hcc], mat_act ⟨h_26, h_27, h_28, h_29, h_30, h_31, h_32, h_33, h_34⟩ (ms_yes hO (ms_rem hS hg1 hq1 hq2 hq3)) (sg_some hO (nI_sg (by omega))) hBg hG hgh hH hw1 hw2 htx hh4 hL60⟩
    · -- not taken at 21
      have c21' := bI_f c21
      refine g_ldc C (-1000002) k99 dX7_remember_24 ?_
      refine g_iret C hr rfl hlk dX7_remember_26 ?_
      exact ⟨by unfold rememberR; rw [if_neg (by unfold InA; omega), hzz]; exact if_pos (by omega), MNx.no (by unfold rememberO; rw [hzz]; exact if_neg (fun h => by have h1 := h.2; omega)) hM0⟩
  · -- not taken at 5
    have c5' := bI_f c5
    refine g_ldc C (-1000001) k43 dX7_remember_8 ?_
    refine g_iret C hr rfl hlk dX7_remember_10 ?_
    exact ⟨by unfold rememberR; exact if_pos (by unfold InA; omega), MNx.no (by unfold rememberO; exact if_neg (fun h => by have h1 := h.1; unfold InA at h1; omega)) hM0⟩
set_option maxRecDepth 100000 in
set_option maxHeartbeats 4000000 in
theorem c_X7_set (l : Launch) (D : va_G) (kc : Nat → ClassId) (N : Nat) (adr : Nat → Nat) (cell : Nat → va_E) (σ : SD) (hn : Nat) (hi : Nat → SD) (L : Nat) (ch : Nat → Int32) (x w : Int32) (hM : MAt cell adr kc σ hn hi L ch) (hG : Good σ) (hN : 9 ≤ N) (hgh : ∀ i, i < hn → Good (hi i)) (hGE : ∀ k, k < 5 → 0 ≤ (σ.2.2.2.2.2.2.1 k).toInt) : MI l yX7_set wsX7_set ({ frames := 1, cells := 0, slots := 0, locals := 22 }) D kc N adr cell [.ref (adr 0), .int x, .int w] (fun (v : Int32) (cell1 : Nat → va_E) => setR σ x w = v ∧ MNx cell1 adr kc σ hn hi (setO σ x w) L ch) := by
  refine met_i (cc := cX7_set) (maxL := 4) (ret := (some .int)) (by decide) rfl (Nat.le_of_ble_eq_true rfl) (lv := [(0, .ref (adr 0)), (1, .int x), (2, .int w)]) rfl ?_
  intro Pg Ev Sv Mi args below Me Cd Ar C hr hlk hnm
  have in7 : ∀ w ∈ u_ws RX7 TX7 12, w ∈ wsX7_set := by decide +kernel
  have k43 := C.2.2.2.2.1 (.constant RX7 43 (-1000001)) (by decide +kernel)
  have f7 := C.2.2.2.2.1 (.fieldLink RX7 7 "WordAnchorsModel" "s" "[I") (by decide +kernel)
  have hM0 := hM
  obtain ⟨S, Wa, Bg, As, tx, at', re, nu, mo, sh, hB, hS, hH, htx, hh4, hL60⟩ := hM
  have hB0 := hB
  obtain ⟨m0, m1, m2, m3, m4, m5, m6, m7, m8⟩ := hB
  have hg1 := hG.1
  have hg2 := hG.2.1
  have e0 := hS.1
  have e1 := hS.2.1
  have litm1000001 : ((-1000001) : Int32).toInt = -1000001 := rfl
  have litm1 : ((-1) : Int32).toInt = -1 := rfl
  have lit0 : (0 : Int32).toInt = 0 := rfl
  have lit1 : (1 : Int32).toInt = 1 := rfl
  have lit3 : (3 : Int32).toInt = 3 := rfl
  have lit4 : (4 : Int32).toInt = 4 := rfl
  have lit20 : (20 : Int32).toInt = 20 := rfl
  have lit60 : (60 : Int32).toInt = 60 := rfl
  have tn___1 : (nI σ.1).toInt = ((σ.1 : Nat) : Int) := nI_toInt (by omega)
  have tn___2_1 : (nI σ.2.1).toInt = ((σ.2.1 : Nat) : Int) := nI_toInt (by omega)
  have tn_hn : (nI hn).toInt = ((hn : Nat) : Int) := nI_toInt (by omega)
  have tn_L : (nI L).toInt = ((L : Nat) : Int) := nI_toInt (by omega)
  refine g_iload_n C 1 rfl dX7_set_0 ?_
  refine g_iconst C 0 (by decide) dX7_set_1 ?_
  refine g_iconst C 4 (by decide) dX7_set_2 ?_
  refine g_Si C [.int x, .int 0, .int 4] (c_X7_in l D kc N adr cell x 0 4) (va_cwS 3 C.2.2.2.2.1 gX7_set_X7_in rfl rfl rfl (by decide +kernel) ⟨Nat.le_of_ble_eq_true rfl, Nat.le_of_ble_eq_true rfl⟩) rfl rfl (Nat.le_of_ble_eq_true rfl) (Nat.zero_le _) (Nat.zero_le _) dX7_set_3 (fun v1 cell1 q1 => ?_)
  obtain ⟨rfl, rfl⟩ := q1
  refine g_if_eq C 29 (by decide) dX7_set_6 (fun c6 => ?_) (fun c6 => ?_)
  · -- taken at 6
    have c6' := bI_f c6
    refine g_ldc C (-1000001) k43 dX7_set_29 ?_
    refine g_iret C hr rfl hlk dX7_set_31 ?_
    exact ⟨by unfold setR; exact if_pos (fun h => by have h1 := h.1; omega), MNx.no (by unfold setO; exact if_neg (fun h => by have h1 := h.1; omega)) hM0⟩
  · -- not taken at 6
    have c6' := bI_t c6
    refine g_iload_n C 2 rfl dX7_set_9 ?_
    refine g_iconst C 0 (by decide) dX7_set_10 ?_
    refine g_iload_n C 1 rfl dX7_set_11 ?_
    refine g_iconst C 3 (by decide) dX7_set_12 ?_
    refine g_icmp_ge C 21 (by decide) dX7_set_13 (fun c13 => ?_) (fun c13 => ?_)
    · -- taken at 13
      have c13' := i_le c13
      refine g_bipush C 60 (by decide) dX7_set_21 ?_
      refine g_Si C [.int w, .int 0, .int 60] (c_X7_in l D kc N adr cell w 0 60) (va_cwS 3 C.2.2.2.2.1 gX7_set_X7_in rfl rfl rfl (by decide +kernel) ⟨Nat.le_of_ble_eq_true rfl, Nat.le_of_ble_eq_true rfl⟩) rfl rfl (Nat.le_of_ble_eq_true rfl) (Nat.zero_le _) (Nat.zero_le _) dX7_set_23 (fun v2 cell2 q2 => ?_)
      obtain ⟨rfl, rfl⟩ := q2
      refine g_if_ne C 32 (by decide) dX7_set_26 (fun c26 => ?_) (fun c26 => ?_)
      · -- taken at 26
        have c26' := bI_t c26
        have ez : x = nI x.toNatClampNeg := nI_cl (by omega)
        have kz := cl_toInt (x := x) (by omega)
        generalize hzz : x.toNatClampNeg = z at ez kz
        refine g_eqlv (lv1 := [(0, .ref (adr 0)), (1, .int (nI z)), (2, .int w)]) (congrArg (fun z0 : Int32 => ([(0, .ref (adr 0)), (1, .int z0), (2, .int w)] : List (Nat × Value))) ez) ?_
        refine g_aload_n C 0 rfl dX7_set_32 ?_
        refine g_Vv C [] 0 7 (by omega) m0 rfl (c_X7_keeps l D kc N adr cell S Wa Bg As tx (nI hn) (nI L) at' re nu mo sh ⟨m0, m1, m2, m3, m4, m5, m6, m7, m8⟩ (by omega)) (cwV 0 C.2.2.2.2.1 gX7_set_X7_keeps rfl rfl rfl (by decide +kernel) ⟨Nat.le_of_ble_eq_true rfl, Nat.le_of_ble_eq_true rfl⟩) rfl rfl (Nat.le_of_ble_eq_true rfl) (Nat.zero_le _) (Nat.zero_le _) dX7_set_33 (fun cell3 q3 => ?_)
        obtain ⟨h_4, h_5, h_6, h_7, h_8, h_9, h_10, h_11, h_12⟩ := q3
        have hBg : MS (fill S Bg 90) σ := ms_cong hS hg1 hg2 (fun j hj => fill_in hj)
        refine g_aload_n C 0 rfl dX7_set_36 ?_
        refine g_get C 0 7 0 (by omega) h_4 rfl in7 (by decide) f7 (fun _ h9 => h9) rfl dX7_set_37 ?_
        refine g_iconst C 3 (by decide) dX7_set_40 ?_
        refine g_iload_n C 1 rfl dX7_set_41 ?_
        refine g_iadd C dX7_set_42 ?_
        refine g_eqst (st1 := ([.int (nI (3 + z)), .ref (adr 1)] : List Value)) (congrArg (fun z0 : Int32 => (([.int z0, .ref (adr 1)] : List Value))) (mI_add 3 z)) ?_
        refine g_iald C 1 (by omega) h_5 (vp_in_nI (by omega) (by omega)) dX7_set_43 ?_
        refine g_eqst (show ([.int (S (nI (3 + z)).toNatClampNeg)] : List Value) = ([.int (S (3 + z))] : List Value) from by rw [nI_clamp (by omega)]) ?_
        refine g_eqst (show ([.int (S (3 + z))] : List Value) = ([.int (σ.2.2.2.2.2.2.1 z)] : List Value) from by rw [hS.2.2.2.1 z (by omega)]) ?_
        refine g_istore_n C [(3, .int (σ.2.2.2.2.2.2.1 z)), (0, .ref (adr 0)), (1, .int (nI z)), (2, .int w)] (by decide) rfl dX7_set_44 ?_
        refine g_aload_n C 1 rfl dX7_set_45 ?_
        refine g_get C 0 7 0 (by omega) h_4 rfl in7 (by decide) f7 (fun _ h9 => h9) rfl dX7_set_46 ?_
        refine g_iconst C 3 (by decide) dX7_set_49 ?_
        refine g_iload_n C 2 rfl dX7_set_50 ?_
        refine g_iadd C dX7_set_51 ?_
        refine g_eqst (st1 := ([.int (nI (3 + z)), .ref (adr 1)] : List Value)) (congrArg (fun z0 : Int32 => (([.int z0, .ref (adr 1)] : List Value))) (mI_add 3 z)) ?_
        refine g_iload_n C 3 rfl dX7_set_52 ?_
        refine g_iast C 1 (by omega) h_5 (vp_in_nI (by omega) (by omega)) dX7_set_53 ?_
        refine g_cell (fun cell14 ec14 => ?_)
        have h_15 : cell14 0 = .inr (7, [.ref (adr 1), .ref (adr 2), .ref (adr 3), .ref (adr 4), .int (nI hn), .ref (adr 5), .int (nI L), .int at', .int re, .ref (adr 6), .ref (adr 7), .ref (adr 8)]) := by rw [ec14, va_up_ne _ _ (by omega)]; exact h_4
        have h_16 : cell14 1 = .inl (kc 0, 90, .inl (upd S (nI (3 + z)).toNatClampNeg w)) := by rw [ec14]; exact va_up_self _ _ _
        have h_17 : cell14 2 = .inl (kc 0, 360, .inl Wa) := by rw [ec14, va_up_ne _ _ (by omega)]; exact h_6
        have h_18 : cell14 3 = .inl (kc 0, 90, .inl (fill S Bg 90)) := by rw [ec14, va_up_ne _ _ (by omega)]; exact h_7
        have h_19 : cell14 4 = .inl (kc 0, 90, .inl As) := by rw [ec14, va_up_ne _ _ (by omega)]; exact h_8
        have h_20 : cell14 5 = .inl (kc 1, 60, .inl tx) := by rw [ec14, va_up_ne _ _ (by omega)]; exact h_9
        have h_21 : cell14 6 = .inl (kc 0, 3, .inl nu) := by rw [ec14, va_up_ne _ _ (by omega)]; exact h_10
        have h_22 : cell14 7 = .inl (kc 0, 40, .inl mo) := by rw [ec14, va_up_ne _ _ (by omega)]; exact h_11
        have h_23 : cell14 8 = .inl (kc 0, 6, .inl sh) := by rw [ec14, va_up_ne _ _ (by omega)]; exact h_12
        have h_25 : cell14 1 = .inl (kc 0, 90, .inl (upd S (3 + z) w)) := by rw [h_16, nI_clamp (by omega)]
        refine g_aload_n C 1 rfl dX7_set_54 ?_
        refine g_iload_n C 0 rfl dX7_set_55 ?_
        refine g_Vi C [.int (σ.2.2.2.2.2.2.1 z)] 0 7 (by omega) h_15 rfl (c_X7_acted l D kc N adr cell14 (upd S (3 + z) w) Wa (fill S Bg 90) As tx (nI hn) (nI L) at' re nu mo sh (σ.2.2.2.2.2.2.1 z) hn ⟨h_15, h_25, h_17, h_18, h_19, h_20, h_21, h_22, h_23⟩ (by omega) rfl hh4) (cwV 1 C.2.2.2.2.1 gX7_set_X7_acted rfl rfl rfl (by decide +kernel) ⟨Nat.le_of_ble_eq_true rfl, Nat.le_of_ble_eq_true rfl⟩) rfl rfl (Nat.le_of_ble_eq_true rfl) (Nat.zero_le _) (Nat.zero_le _) dX7_set_56 (fun v26 cell26 q26 => ?_)
        obtain ⟨rfl, Wa1, ⟨h_27, h_28, h_29, h_30, h_31, h_32, h_33, h_34, h_35⟩, hw1, hw2⟩ := q26
        refine g_iret C hr rfl hlk dX7_set_59 ?_
        have hgs : gsF x = 60 := if_neg (by omega)
        have hok : SOk x w := ⟨by omega, by omega⟩
        have hO : setO σ x w = some (setD z w σ) := by unfold setO; rw [hzz]; exact if_pos hok
        exact ⟨by unfold setR; rw [if_neg (fun h => h hok), hzz], mat_act ⟨h_27, h_28, h_29, h_30, h_31, h_32, h_33, h_34, h_35⟩ (ms_yes hO (ms_set hS (by omega))) (sg_some hO (by have := hGE z (by omega); omega)) hBg hG hgh hH hw1 hw2 htx hh4 hL60⟩
      · -- not taken at 26
        have c26' := bI_f c26
        refine g_ldc C (-1000001) k43 dX7_set_29 ?_
        refine g_iret C hr rfl hlk dX7_set_31 ?_
        have hgs : gsF x = 60 := if_neg (by omega)
        exact ⟨by unfold setR; exact if_pos (fun h => by have h1 := h.2; omega), MNx.no (by unfold setO; exact if_neg (fun h => by have h1 := h.2; omega)) hM0⟩
    · -- not taken at 13
      have c13' := i_nle c13
      refine g_bipush C 20 (by decide) dX7_set_16 ?_
      refine g_goto C 23 (by decide) dX7_set_18 ?_
      refine g_Si C [.int w, .int 0, .int 20] (c_X7_in l D kc N adr cell w 0 20) (va_cwS 3 C.2.2.2.2.1 gX7_set_X7_in rfl rfl rfl (by decide +kernel) ⟨Nat.le_of_ble_eq_true rfl, Nat.le_of_ble_eq_true rfl⟩) rfl rfl (Nat.le_of_ble_eq_true rfl) (Nat.zero_le _) (Nat.zero_le _) dX7_set_23 (fun v36 cell36 q36 => ?_)
      obtain ⟨rfl, rfl⟩ := q36
      refine g_if_ne C 32 (by decide) dX7_set_26 (fun c26 => ?_) (fun c26 => ?_)
      · -- taken at 26
        have c26' := bI_t c26
        have ez : x = nI x.toNatClampNeg := nI_cl (by omega)
        have kz := cl_toInt (x := x) (by omega)
        generalize hzz : x.toNatClampNeg = z at ez kz
        refine g_eqlv (lv1 := [(0, .ref (adr 0)), (1, .int (nI z)), (2, .int w)]) (congrArg (fun z0 : Int32 => ([(0, .ref (adr 0)), (1, .int z0), (2, .int w)] : List (Nat × Value))) ez) ?_
        refine g_aload_n C 0 rfl dX7_set_32 ?_
        refine g_Vv C [] 0 7 (by omega) m0 rfl (c_X7_keeps l D kc N adr cell S Wa Bg As tx (nI hn) (nI L) at' re nu mo sh ⟨m0, m1, m2, m3, m4, m5, m6, m7, m8⟩ (by omega)) (cwV 0 C.2.2.2.2.1 gX7_set_X7_keeps rfl rfl rfl (by decide +kernel) ⟨Nat.le_of_ble_eq_true rfl, Nat.le_of_ble_eq_true rfl⟩) rfl rfl (Nat.le_of_ble_eq_true rfl) (Nat.zero_le _) (Nat.zero_le _) dX7_set_33 (fun cell37 q37 => ?_)
        obtain ⟨h_38, h_39, h_40, h_41, h_42, h_43, h_44, h_45, h_46⟩ := q37
        have hBg : MS (fill S Bg 90) σ := ms_cong hS hg1 hg2 (fun j hj => fill_in hj)
        refine g_aload_n C 0 rfl dX7_set_36 ?_
        refine g_get C 0 7 0 (by omega) h_38 rfl in7 (by decide) f7 (fun _ h9 => h9) rfl dX7_set_37 ?_
        refine g_iconst C 3 (by decide) dX7_set_40 ?_
        refine g_iload_n C 1 rfl dX7_set_41 ?_
        refine g_iadd C dX7_set_42 ?_
        refine g_eqst (st1 := ([.int (nI (3 + z)), .ref (adr 1)] : List Value)) (congrArg (fun z0 : Int32 => (([.int z0, .ref (adr 1)] : List Value))) (mI_add 3 z)) ?_
        refine g_iald C 1 (by omega) h_39 (vp_in_nI (by omega) (by omega)) dX7_set_43 ?_
        refine g_eqst (show ([.int (S (nI (3 + z)).toNatClampNeg)] : List Value) = ([.int (S (3 + z))] : List Value) from by rw [nI_clamp (by omega)]) ?_
        refine g_eqst (show ([.int (S (3 + z))] : List Value) = ([.int (σ.2.2.2.2.2.2.1 z)] : List Value) from by rw [hS.2.2.2.1 z (by omega)]) ?_
        refine g_istore_n C [(3, .int (σ.2.2.2.2.2.2.1 z)), (0, .ref (adr 0)), (1, .int (nI z)), (2, .int w)] (by decide) rfl dX7_set_44 ?_
        refine g_aload_n C 1 rfl dX7_set_45 ?_
        refine g_get C 0 7 0 (by omega) h_38 rfl in7 (by decide) f7 (fun _ h9 => h9) rfl dX7_set_46 ?_
        refine g_iconst C 3 (by decide) dX7_set_49 ?_
        refine g_iload_n C 2 rfl dX7_set_50 ?_
        refine g_iadd C dX7_set_51 ?_
        refine g_eqst (st1 := ([.int (nI (3 + z)), .ref (adr 1)] : List Value)) (congrArg (fun z0 : Int32 => (([.int z0, .ref (adr 1)] : List Value))) (mI_add 3 z)) ?_
        refine g_iload_n C 3 rfl dX7_set_52 ?_
        refine g_iast C 1 (by omega) h_39 (vp_in_nI (by omega) (by omega)) dX7_set_53 ?_
        refine g_cell (fun cell48 ec48 => ?_)
        have h_49 : cell48 0 = .inr (7, [.ref (adr 1), .ref (adr 2), .ref (adr 3), .ref (adr 4), .int (nI hn), .ref (adr 5), .int (nI L), .int at', .int re, .ref (adr 6), .ref (adr 7), .ref (adr 8)]) := by rw [ec48, va_up_ne _ _ (by omega)]; exact h_38
        have h_50 : cell48 1 = .inl (kc 0, 90, .inl (upd S (nI (3 + z)).toNatClampNeg w)) := by rw [ec48]; exact va_up_self _ _ _
        have h_51 : cell48 2 = .inl (kc 0, 360, .inl Wa) := by rw [ec48, va_up_ne _ _ (by omega)]; exact h_40
        have h_52 : cell48 3 = .inl (kc 0, 90, .inl (fill S Bg 90)) := by rw [ec48, va_up_ne _ _ (by omega)]; exact h_41
        have h_53 : cell48 4 = .inl (kc 0, 90, .inl As) := by rw [ec48, va_up_ne _ _ (by omega)]; exact h_42
        have h_54 : cell48 5 = .inl (kc 1, 60, .inl tx) := by rw [ec48, va_up_ne _ _ (by omega)]; exact h_43
        have h_55 : cell48 6 = .inl (kc 0, 3, .inl nu) := by rw [ec48, va_up_ne _ _ (by omega)]; exact h_44
        have h_56 : cell48 7 = .inl (kc 0, 40, .inl mo) := by rw [ec48, va_up_ne _ _ (by omega)]; exact h_45
        have h_57 : cell48 8 = .inl (kc 0, 6, .inl sh) := by rw [ec48, va_up_ne _ _ (by omega)]; exact h_46
        have h_59 : cell48 1 = .inl (kc 0, 90, .inl (upd S (3 + z) w)) := by rw [h_50, nI_clamp (by omega)]
        refine g_aload_n C 1 rfl dX7_set_54 ?_
        refine g_iload_n C 0 rfl dX7_set_55 ?_
        refine g_Vi C [.int (σ.2.2.2.2.2.2.1 z)] 0 7 (by omega) h_49 rfl (c_X7_acted l D kc N adr cell48 (upd S (3 + z) w) Wa (fill S Bg 90) As tx (nI hn) (nI L) at' re nu mo sh (σ.2.2.2.2.2.2.1 z) hn ⟨h_49, h_59, h_51, h_52, h_53, h_54, h_55, h_56, h_57⟩ (by omega) rfl hh4) (cwV 1 C.2.2.2.2.1 gX7_set_X7_acted rfl rfl rfl (by decide +kernel) ⟨Nat.le_of_ble_eq_true rfl, Nat.le_of_ble_eq_true rfl⟩) rfl rfl (Nat.le_of_ble_eq_true rfl) (Nat.zero_le _) (Nat.zero_le _) dX7_set_56 (fun v60 cell60 q60 => ?_)
        obtain ⟨rfl, Wa1, ⟨h_61, h_62, h_63, h_64, h_65, h_66, h_67, h_68, h_69⟩, hw1, hw2⟩ := q60
        refine g_iret C hr rfl hlk dX7_set_59 ?_
        have hgs : gsF x = 20 := if_pos (by omega)
        have hok : SOk x w := ⟨by omega, by omega⟩
        have hO : setO σ x w = some (setD z w σ) := by unfold setO; rw [hzz]; exact if_pos hok
        exact ⟨by unfold setR; rw [if_neg (fun h => h hok), hzz], mat_act ⟨h_61, h_62, h_63, h_64, h_65, h_66, h_67, h_68, h_69⟩ (ms_yes hO (ms_set hS (by omega))) (sg_some hO (by have := hGE z (by omega); omega)) hBg hG hgh hH hw1 hw2 htx hh4 hL60⟩
      · -- not taken at 26
        have c26' := bI_f c26
        refine g_ldc C (-1000001) k43 dX7_set_29 ?_
        refine g_iret C hr rfl hlk dX7_set_31 ?_
        have hgs : gsF x = 20 := if_pos (by omega)
        exact ⟨by unfold setR; exact if_pos (fun h => by have h1 := h.2; omega), MNx.no (by unfold setO; exact if_neg (fun h => by have h1 := h.2; omega)) hM0⟩
