set_option maxRecDepth 100000 in
set_option maxHeartbeats 4000000 in
theorem c_X7_wouldTake (l : Launch) (D : va_G) (kc : Nat → ClassId) (N : Nat) (adr : Nat → Nat) (cell : Nat → va_E) (S Wa Bg As tx : Nat → Int32) (st ty at' re : Int32) (nu mo sh : Nat → Int32) (σ : SD) (x y : Int32) (hB : MB cell adr kc S Wa Bg As st tx ty at' re nu mo sh) (hN : 9 ≤ N) (hS : MS S σ) (hG : Good σ) : MI l yX7_wouldTake wsX7_wouldTake ({ frames := 8, cells := 0, slots := 0, locals := 185 }) D kc N adr cell [.ref (adr 0), .int x, .int y] (fun (v : Int32) (cell1 : Nat → va_E) => wouldTakeR σ x y = v ∧ ∃ S1 As1 : Nat → Int32, MB cell1 adr kc S1 Wa Bg As1 st tx ty at' re nu mo sh ∧ MS S1 σ) := by
  refine met_i (cc := cX7_wouldTake) (maxL := 4) (ret := (some .int)) (by decide) rfl (Nat.le_of_ble_eq_true rfl) (lv := [(0, .ref (adr 0)), (1, .int x), (2, .int y)]) rfl ?_
  intro Pg Ev Sv Mi args below Me Cd Ar C hr hlk hnm
  have k43 := C.2.2.2.2.1 (.constant RX7 43 (-1000001)) (by decide +kernel)
  have hB0 := hB
  obtain ⟨m0, m1, m2, m3, m4, m5, m6, m7, m8⟩ := hB
  have hg1 := hG.1
  have hg2 := hG.2.1
  have e0 := hS.1
  have e1 := hS.2.1
  have litm1000001 : ((-1000001) : Int32).toInt = -1000001 := rfl
  have litm1 : ((-1) : Int32).toInt = -1 := rfl
  have lit0 : (0 : Int32).toInt = 0 := rfl
  have lit1 : (1 : Int32).toInt = 1 := rfl
  have lit2 : (2 : Int32).toInt = 2 := rfl
  have lit3 : (3 : Int32).toInt = 3 := rfl
  have tn___1 : (nI σ.1).toInt = ((σ.1 : Nat) : Int) := nI_toInt (by omega)
  have tn___2_1 : (nI σ.2.1).toInt = ((σ.2.1 : Nat) : Int) := nI_toInt (by omega)
  refine g_aload_n C 0 rfl dX7_wouldTake_0 ?_
  refine g_iload_n C 1 rfl dX7_wouldTake_1 ?_
  refine g_Vi C [.int x] 0 7 (by omega) m0 rfl (c_X7_isPlace l D kc N adr cell S Wa Bg As tx st ty at' re nu mo sh σ x ⟨m0, m1, m2, m3, m4, m5, m6, m7, m8⟩ (by omega) hS hG.1 hG.2.1) (cwV 1 C.2.2.2.2.1 gX7_wouldTake_X7_isPlace rfl rfl rfl (by decide +kernel) ⟨Nat.le_of_ble_eq_true rfl, Nat.le_of_ble_eq_true rfl⟩) rfl rfl (Nat.le_of_ble_eq_true rfl) (Nat.zero_le _) (Nat.zero_le _) dX7_wouldTake_2 (fun v1 cell1 q1 => ?_)
  obtain ⟨rfl, rfl⟩ := q1
  refine g_if_eq C 17 (by decide) dX7_wouldTake_5 (fun c5 => ?_) (fun c5 => ?_)
  · -- taken at 5
    have c5' := bI_f c5
    refine g_ldc C (-1000001) k43 dX7_wouldTake_17 ?_
    refine g_iret C hr rfl hlk dX7_wouldTake_19 ?_
    exact ⟨by unfold wouldTakeR; exact if_pos (by omega), _, _, ⟨m0, m1, m2, m3, m4, m5, m6, m7, m8⟩, hS⟩
  · -- not taken at 5
    have c5' := bI_t c5
    refine g_iload_n C 2 rfl dX7_wouldTake_8 ?_
    refine g_iconst C 0 (by decide) dX7_wouldTake_9 ?_
    refine g_iconst C 1 (by decide) dX7_wouldTake_10 ?_
    refine g_Si C [.int y, .int 0, .int 1] (c_X7_in l D kc N adr cell y 0 1) (va_cwS 3 C.2.2.2.2.1 gX7_wouldTake_X7_in rfl rfl rfl (by decide +kernel) ⟨Nat.le_of_ble_eq_true rfl, Nat.le_of_ble_eq_true rfl⟩) rfl rfl (Nat.le_of_ble_eq_true rfl) (Nat.zero_le _) (Nat.zero_le _) dX7_wouldTake_11 (fun v2 cell2 q2 => ?_)
    obtain ⟨rfl, rfl⟩ := q2
    refine g_if_ne C 20 (by decide) dX7_wouldTake_14 (fun c14 => ?_) (fun c14 => ?_)
    · -- taken at 14
      have c14' := bI_t c14
      have ez : x = nI x.toNatClampNeg := nI_cl (by omega)
      have kz := cl_toInt (x := x) (by omega)
      generalize hzz : x.toNatClampNeg = z at ez kz
      refine g_eqlv (lv1 := [(0, .ref (adr 0)), (1, .int (nI z)), (2, .int y)]) (congrArg (fun z0 : Int32 => ([(0, .ref (adr 0)), (1, .int z0), (2, .int y)] : List (Nat × Value))) ez) ?_
      refine g_aload_n C 0 rfl dX7_wouldTake_20 ?_
      refine g_Vv C [] 0 7 (by omega) m0 rfl (c_X7_lays l D kc N adr cell S Wa Bg As tx st ty at' re nu mo sh ⟨m0, m1, m2, m3, m4, m5, m6, m7, m8⟩ (by omega)) (cwV 0 C.2.2.2.2.1 gX7_wouldTake_X7_lays rfl rfl rfl (by decide +kernel) ⟨Nat.le_of_ble_eq_true rfl, Nat.le_of_ble_eq_true rfl⟩) rfl rfl (Nat.le_of_ble_eq_true rfl) (Nat.zero_le _) (Nat.zero_le _) dX7_wouldTake_21 (fun cell3 q3 => ?_)
      obtain ⟨h_4, h_5, h_6, h_7, h_8, h_9, h_10, h_11, h_12⟩ := q3
      refine g_aload_n C 0 rfl dX7_wouldTake_24 ?_
      refine g_iload_n C 1 rfl dX7_wouldTake_25 ?_
      refine g_Vi C [.int (nI z)] 0 7 (by omega) h_4 rfl (c_X7_takes l D kc N adr cell3 S Wa Bg (fill S As 90) tx st ty at' re nu mo sh σ (nI z) ⟨h_4, h_5, h_6, h_7, h_8, h_9, h_10, h_11, h_12⟩ (by omega) hS hG) (cwV 1 C.2.2.2.2.1 gX7_wouldTake_X7_takes rfl rfl rfl (by decide +kernel) ⟨Nat.le_of_ble_eq_true rfl, Nat.le_of_ble_eq_true rfl⟩) rfl rfl (Nat.le_of_ble_eq_true rfl) (Nat.zero_le _) (Nat.zero_le _) dX7_wouldTake_26 (fun v13 cell13 q13 => ?_)
      obtain ⟨rfl, S1, ⟨h_14, h_15, h_16, h_17, h_18, h_19, h_20, h_21, h_22⟩, hS1⟩ := q13
      have hzi : (nI z).toNatClampNeg = z := nI_clamp (by omega)
      have hzt : (nI z).toInt = ((z : Nat) : Int) := nI_toInt (by omega)
      have hto : takeO σ (nI z) = some (remD z σ) := by unfold takeO; rw [hzi]; exact if_pos (by omega)
      rw [hto] at hS1
      have hS2 : MS S1 (remD z σ) := hS1
      have hG2 : Good (remD z σ) := good_rem hG (by omega)
      have hm2 : (remD z σ).2.1 = σ.2.1 := rfl
      refine g_pop C rfl dX7_wouldTake_29 ?_
      refine g_aload_n C 0 rfl dX7_wouldTake_30 ?_
      refine g_iload_n C 2 rfl dX7_wouldTake_31 ?_
      refine g_if_ne C 39 (by decide) dX7_wouldTake_32 (fun c32 => ?_) (fun c32 => ?_)
      · -- taken at 32
        have c32' := i_ne c32
        refine g_iconst C 3 (by decide) dX7_wouldTake_39 ?_
        refine g_Vi C [.int 3] 0 7 (by omega) h_14 rfl (c_X7_those l D kc N adr cell13 S1 Wa Bg (fill S As 90) tx st ty at' re nu mo sh (remD z σ) 3 ⟨h_14, h_15, h_16, h_17, h_18, h_19, h_20, h_21, h_22⟩ (by omega) hS2 hG2) (cwV 1 C.2.2.2.2.1 gX7_wouldTake_X7_those rfl rfl rfl (by decide +kernel) ⟨Nat.le_of_ble_eq_true rfl, Nat.le_of_ble_eq_true rfl⟩) rfl rfl (Nat.le_of_ble_eq_true rfl) (Nat.zero_le _) (Nat.zero_le _) dX7_wouldTake_40 (fun v23 cell23 q23 => ?_)
        obtain ⟨rfl, rfl⟩ := q23
        refine g_istore_n C [(3, .int (aKs (remD z σ) 3 (remD z σ).2.1)), (0, .ref (adr 0)), (1, .int (nI z)), (2, .int y)] (by decide) rfl dX7_wouldTake_43 ?_
        refine g_aload_n C 1 rfl dX7_wouldTake_44 ?_
        refine g_Vv C [] 0 7 (by omega) h_14 rfl (c_X7_restores l D kc N adr cell13 S1 Wa Bg (fill S As 90) tx st ty at' re nu mo sh ⟨h_14, h_15, h_16, h_17, h_18, h_19, h_20, h_21, h_22⟩ (by omega)) (cwV 0 C.2.2.2.2.1 gX7_wouldTake_X7_restores rfl rfl rfl (by decide +kernel) ⟨Nat.le_of_ble_eq_true rfl, Nat.le_of_ble_eq_true rfl⟩) rfl rfl (Nat.le_of_ble_eq_true rfl) (Nat.zero_le _) (Nat.zero_le _) dX7_wouldTake_45 (fun cell24 q24 => ?_)
        obtain ⟨h_25, h_26, h_27, h_28, h_29, h_30, h_31, h_32, h_33⟩ := q24
        refine g_iload_n C 0 rfl dX7_wouldTake_48 ?_
        refine g_iret C hr rfl hlk dX7_wouldTake_49 ?_
        exact ⟨by unfold wouldTakeR; rw [if_neg (by omega), hzz, if_neg c32]; rfl, _, _, ⟨h_25, h_26, h_27, h_28, h_29, h_30, h_31, h_32, h_33⟩, ms_cong hS hg1 hg2 (fun j hj => by rw [fill_in hj, fill_in hj])⟩
      · -- not taken at 32
        have c32' := i_eq c32
        refine g_iconst C 2 (by decide) dX7_wouldTake_35 ?_
        refine g_goto C 40 (by decide) dX7_wouldTake_36 ?_
        refine g_Vi C [.int 2] 0 7 (by omega) h_14 rfl (c_X7_those l D kc N adr cell13 S1 Wa Bg (fill S As 90) tx st ty at' re nu mo sh (remD z σ) 2 ⟨h_14, h_15, h_16, h_17, h_18, h_19, h_20, h_21, h_22⟩ (by omega) hS2 hG2) (cwV 1 C.2.2.2.2.1 gX7_wouldTake_X7_those rfl rfl rfl (by decide +kernel) ⟨Nat.le_of_ble_eq_true rfl, Nat.le_of_ble_eq_true rfl⟩) rfl rfl (Nat.le_of_ble_eq_true rfl) (Nat.zero_le _) (Nat.zero_le _) dX7_wouldTake_40 (fun v34 cell34 q34 => ?_)
        obtain ⟨rfl, rfl⟩ := q34
        refine g_istore_n C [(3, .int (aKs (remD z σ) 2 (remD z σ).2.1)), (0, .ref (adr 0)), (1, .int (nI z)), (2, .int y)] (by decide) rfl dX7_wouldTake_43 ?_
        refine g_aload_n C 1 rfl dX7_wouldTake_44 ?_
        refine g_Vv C [] 0 7 (by omega) h_14 rfl (c_X7_restores l D kc N adr cell13 S1 Wa Bg (fill S As 90) tx st ty at' re nu mo sh ⟨h_14, h_15, h_16, h_17, h_18, h_19, h_20, h_21, h_22⟩ (by omega)) (cwV 0 C.2.2.2.2.1 gX7_wouldTake_X7_restores rfl rfl rfl (by decide +kernel) ⟨Nat.le_of_ble_eq_true rfl, Nat.le_of_ble_eq_true rfl⟩) rfl rfl (Nat.le_of_ble_eq_true rfl) (Nat.zero_le _) (Nat.zero_le _) dX7_wouldTake_45 (fun cell35 q35 => ?_)
        obtain ⟨h_36, h_37, h_38, h_39, h_40, h_41, h_42, h_43, h_44⟩ := q35
        refine g_iload_n C 0 rfl dX7_wouldTake_48 ?_
        refine g_iret C hr rfl hlk dX7_wouldTake_49 ?_
        exact ⟨by unfold wouldTakeR; rw [if_neg (by omega), hzz, if_pos c32]; rfl, _, _, ⟨h_36, h_37, h_38, h_39, h_40, h_41, h_42, h_43, h_44⟩, ms_cong hS hg1 hg2 (fun j hj => by rw [fill_in hj, fill_in hj])⟩
    · -- not taken at 14
      have c14' := bI_f c14
      refine g_ldc C (-1000001) k43 dX7_wouldTake_17 ?_
      refine g_iret C hr rfl hlk dX7_wouldTake_19 ?_
      exact ⟨by unfold wouldTakeR; exact if_pos (by omega), _, _, ⟨m0, m1, m2, m3, m4, m5, m6, m7, m8⟩, hS⟩
set_option maxRecDepth 100000 in
set_option maxHeartbeats 4000000 in
theorem c_X7_safest (l : Launch) (D : va_G) (kc : Nat → ClassId) (N : Nat) (adr : Nat → Nat) (cell : Nat → va_E) (σ : SD) (hn : Nat) (hi : Nat → SD) (L : Nat) (ch : Nat → Int32) (x : Int32) (hM : MAt cell adr kc σ hn hi L ch) (hG : Good σ) (hN : 9 ≤ N) : MI l yX7_safest wsX7_safest ({ frames := 9, cells := 0, slots := 0, locals := 208 }) D kc N adr cell [.ref (adr 0), .int x] (fun (v : Int32) (cell1 : Nat → va_E) => safestR σ x = v ∧ MAt cell1 adr kc σ hn hi L ch) := by
  refine met_i (cc := cX7_safest) (maxL := 6) (ret := (some .int)) (by decide) rfl (Nat.le_of_ble_eq_true rfl) (lv := [(0, .ref (adr 0)), (1, .int x)]) rfl ?_
  intro Pg Ev Sv Mi args below Me Cd Ar C hr hlk hnm
  have in7 : ∀ w ∈ u_ws RX7 TX7 12, w ∈ wsX7_safest := by decide +kernel
  have k100 := C.2.2.2.2.1 (.constant RX7 100 (-1000004)) (by decide +kernel)
  have f7 := C.2.2.2.2.1 (.fieldLink RX7 7 "WordAnchorsModel" "s" "[I") (by decide +kernel)
  have k43 := C.2.2.2.2.1 (.constant RX7 43 (-1000001)) (by decide +kernel)
  have hM0 := hM
  obtain ⟨S, Wa, Bg, As, tx, at', re, nu, mo, sh, hB, hS, hH, htx, hh4, hL60⟩ := hM
  have hB0 := hB
  obtain ⟨m0, m1, m2, m3, m4, m5, m6, m7, m8⟩ := hB
  have hg1 := hG.1
  have hg2 := hG.2.1
  have e0 := hS.1
  have e1 := hS.2.1
  have litm1000004 : ((-1000004) : Int32).toInt = -1000004 := rfl
  have litm1000001 : ((-1000001) : Int32).toInt = -1000001 := rfl
  have litm1 : ((-1) : Int32).toInt = -1 := rfl
  have lit0 : (0 : Int32).toInt = 0 := rfl
  have lit1 : (1 : Int32).toInt = 1 := rfl
  have lit7 : (7 : Int32).toInt = 7 := rfl
  have tn___1 : (nI σ.1).toInt = ((σ.1 : Nat) : Int) := nI_toInt (by omega)
  have tn___2_1 : (nI σ.2.1).toInt = ((σ.2.1 : Nat) : Int) := nI_toInt (by omega)
  have tn_hn : (nI hn).toInt = ((hn : Nat) : Int) := nI_toInt (by omega)
  have tn_L : (nI L).toInt = ((L : Nat) : Int) := nI_toInt (by omega)
  refine g_iload_n C 1 rfl dX7_safest_0 ?_
  refine g_iconst C 0 (by decide) dX7_safest_1 ?_
  refine g_iconst C 1 (by decide) dX7_safest_2 ?_
  refine g_Si C [.int x, .int 0, .int 1] (c_X7_in l D kc N adr cell x 0 1) (va_cwS 3 C.2.2.2.2.1 gX7_safest_X7_in rfl rfl rfl (by decide +kernel) ⟨Nat.le_of_ble_eq_true rfl, Nat.le_of_ble_eq_true rfl⟩) rfl rfl (Nat.le_of_ble_eq_true rfl) (Nat.zero_le _) (Nat.zero_le _) dX7_safest_3 (fun v1 cell1 q1 => ?_)
  obtain ⟨rfl, rfl⟩ := q1
  refine g_if_ne C 12 (by decide) dX7_safest_6 (fun c6 => ?_) (fun c6 => ?_)
  · -- taken at 6
    have c6' := bI_t c6
    refine g_ldc C (-1000004) k100 dX7_safest_12 ?_
    refine g_istore_n C [(2, .int (-1000004)), (0, .ref (adr 0)), (1, .int x)] (by decide) rfl dX7_safest_14 ?_
    refine g_bipush C 7 (by decide) dX7_safest_15 ?_
    refine g_istore_n C [(3, .int 7), (2, .int (-1000004)), (0, .ref (adr 0)), (1, .int x)] (by decide) rfl dX7_safest_17 ?_
    refine g_iconst C 0 (by decide) dX7_safest_18 ?_
    refine g_istore C [(4, .int 0), (3, .int 7), (2, .int (-1000004)), (0, .ref (adr 0)), (1, .int x)] (by decide) rfl dX7_safest_19 ?_
    have L21 : ∀ (fu i : Nat) (cl : Nat → va_E) (Sl Al : Nat → Int32), i ≤ σ.1 → σ.1 < i + fu → (q0 : cl 0 = .inr (7, [.ref (adr 1), .ref (adr 2), .ref (adr 3), .ref (adr 4), .int (nI hn), .ref (adr 5), .int (nI L), .int at', .int re, .ref (adr 6), .ref (adr 7), .ref (adr 8)])) → (q1 : cl 1 = .inl (kc 0, 90, .inl Sl)) → (q2 : cl 2 = .inl (kc 0, 360, .inl Wa)) → (q3 : cl 3 = .inl (kc 0, 90, .inl Bg)) → (q4 : cl 4 = .inl (kc 0, 90, .inl Al)) → (q5 : cl 5 = .inl (kc 1, 60, .inl tx)) → (q6 : cl 6 = .inl (kc 0, 3, .inl nu)) → (q7 : cl 7 = .inl (kc 0, 40, .inl mo)) → (q8 : cl 8 = .inl (kc 0, 6, .inl sh)) → (hsl : MS Sl σ) → G Pg l Ev (headSpec wsX7_safest { frames := 9, cells := 0, slots := 0, locals := 208 }).room Sv Mi args below Me Cd D N adr Ar Sv.heap 6 0 0 (MQ below (va_Qi (fun (v : Int32) (cell1 : Nat → va_E) => safestR σ x = v ∧ MAt cell1 adr kc σ hn hi L ch) (fun (cell1 : Nat → va_E) (t : State) => va_P D vwCl (wld N adr cell1) t.heap) Ar) args Sv 0 0 Ar) cl 21 [(0, .ref (adr 0)), (1, .int x), (2, .int (sfP σ i)), (3, .int ((sfF σ i).2)), (4, .int (nI i))] ([] : List Value) := by
      intro fu
      induction fu with
      | zero => intro i cl Sl Al hle hfu; exact absurd hfu (by omega)
      | succ fu ih =>
        intro i cl Sl Al hle21 hfu21 q0 q1 q2 q3 q4 q5 q6 q7 q8 hsl
        have tn_i : (nI i).toInt = ((i : Nat) : Int) := nI_toInt (by omega)
        refine g_iload C 4 rfl dX7_safest_21 ?_
        refine g_aload_n C 0 rfl dX7_safest_23 ?_
        refine g_get C 0 7 0 (by omega) q0 rfl in7 (by decide) f7 (fun _ h9 => h9) rfl dX7_safest_24 ?_
        refine g_iconst C 0 (by decide) dX7_safest_27 ?_
        refine g_iald C 1 (by omega) q1 (vp_in_iff.mpr (by omega)) dX7_safest_28 ?_
        refine g_eqst (st1 := ([.int (Sl 0), .int (nI i)] : List Value)) rfl ?_
        refine g_eqst (show ([.int (Sl 0), .int (nI i)] : List Value) = ([.int (nI σ.1), .int (nI i)] : List Value) from by rw [show Sl 0 = nI σ.1 from hsl.1]) ?_
        refine g_icmp_ge C 76 (by decide) dX7_safest_29 (fun c29 => ?_) (fun c29 => ?_)
        · -- taken at 29
          have c29' := i_le c29
          obtain rfl : σ.1 = i := by omega
          refine g_iload_n C 1 rfl dX7_safest_76 ?_
          refine g_if_eq C 84 (by decide) dX7_safest_77 (fun c77 => ?_) (fun c77 => ?_)
          · -- taken at 77
            have c77' := i_eq c77
            refine g_iload_n C 2 rfl dX7_safest_84 ?_
            refine g_goto C 89 (by decide) dX7_safest_85 ?_
            refine g_iret C hr rfl hlk dX7_safest_89 ?_
            exact ⟨sfR_0 (by omega) c77, ⟨_, _, _, _, _, _, _, _, _, _, ⟨q0, q1, q2, q3, q4, q5, q6, q7, q8⟩, hsl, hH, htx, hh4, hL60⟩⟩
          · -- not taken at 77
            have c77' := i_ne c77
            refine g_iload_n C 2 rfl dX7_safest_80 ?_
            refine g_if_ge C 88 (by decide) dX7_safest_81 (fun c81 => ?_) (fun c81 => ?_)
            · -- taken at 81
              have c81' := i_le c81
              refine g_iload_n C 3 rfl dX7_safest_88 ?_
              refine g_iret C hr rfl hlk dX7_safest_89 ?_
              exact ⟨sfR_1 (by omega) c77 c81, ⟨_, _, _, _, _, _, _, _, _, _, ⟨q0, q1, q2, q3, q4, q5, q6, q7, q8⟩, hsl, hH, htx, hh4, hL60⟩⟩
            · -- not taken at 81
              have c81' := i_nle c81
              refine g_iload_n C 2 rfl dX7_safest_84 ?_
              refine g_goto C 89 (by decide) dX7_safest_85 ?_
              refine g_iret C hr rfl hlk dX7_safest_89 ?_
              exact ⟨sfR_2 hg1 (by omega) c81, ⟨_, _, _, _, _, _, _, _, _, _, ⟨q0, q1, q2, q3, q4, q5, q6, q7, q8⟩, hsl, hH, htx, hh4, hL60⟩⟩
        · -- not taken at 29
          have c29' := i_nle c29
          refine g_aload_n C 0 rfl dX7_safest_32 ?_
          refine g_iload C 4 rfl dX7_safest_33 ?_
          refine g_iconst C 0 (by decide) dX7_safest_35 ?_
          refine g_Vi C [.int (nI i), .int 0] 0 7 (by omega) q0 rfl (c_X7_wouldTake l D kc N adr cl Sl Wa Bg Al tx (nI hn) (nI L) at' re nu mo sh σ (nI i) 0 ⟨q0, q1, q2, q3, q4, q5, q6, q7, q8⟩ (by omega) hsl hG) (cwV 2 C.2.2.2.2.1 gX7_safest_X7_wouldTake rfl rfl rfl (by decide +kernel) ⟨Nat.le_of_ble_eq_true rfl, Nat.le_of_ble_eq_true rfl⟩) rfl rfl (Nat.le_of_ble_eq_true rfl) (Nat.zero_le _) (Nat.zero_le _) dX7_safest_36 (fun v3 cell3 q3 => ?_)
          obtain ⟨rfl, S1, As1, ⟨h_4, h_5, h_6, h_7, h_8, h_9, h_10, h_11, h_12⟩, hS1⟩ := q3
          have hwt : wouldTakeR σ (nI i) 0 = aKs (remD i σ) 2 σ.2.1 := by
            have hzi : (nI i).toNatClampNeg = i := nI_clamp (by omega)
            unfold wouldTakeR; rw [if_neg (by omega), hzi, if_pos rfl]
          have hao := aKs_on (remD i σ) 2 (i := σ.2.1) hg2
          refine g_eqst (st1 := ([.int (aKs (remD i σ) 2 σ.2.1)] : List Value)) (by rw [hwt]) ?_
          refine g_Si C [.int (aKs (remD i σ) 2 σ.2.1)] (c_X7_ones l D kc N adr cell3 (aKs (remD i σ) 2 σ.2.1)) (va_cwS 1 C.2.2.2.2.1 gX7_safest_X7_ones rfl rfl rfl (by decide +kernel) ⟨Nat.le_of_ble_eq_true rfl, Nat.le_of_ble_eq_true rfl⟩) rfl rfl (Nat.le_of_ble_eq_true rfl) (Nat.zero_le _) (Nat.zero_le _) dX7_safest_39 (fun v13 cell13 q13 => ?_)
          obtain ⟨rfl, rfl⟩ := q13
          refine g_eqst (st1 := ([.int (bcF (aKs (remD i σ) 2 σ.2.1))] : List Value)) (by rw [hao.1]) ?_
          refine g_istore C [(5, .int (bcF (aKs (remD i σ) 2 σ.2.1))), (0, .ref (adr 0)), (1, .int x), (2, .int (sfP σ i)), (3, .int ((sfF σ i).2)), (4, .int (nI i))] (by decide) rfl dX7_safest_42 ?_
          refine g_iload C 0 rfl dX7_safest_44 ?_
          refine g_iload_n C 4 rfl dX7_safest_46 ?_
          refine g_icmp_ge C 55 (by decide) dX7_safest_47 (fun c47 => ?_) (fun c47 => ?_)
          · -- taken at 47
            have c47' := i_le c47
            refine g_iload_n C 3 rfl dX7_safest_55 ?_
            refine g_istore_n C [(2, .int (sfP σ i)), (5, .int (bcF (aKs (remD i σ) 2 σ.2.1))), (0, .ref (adr 0)), (1, .int x), (3, .int ((sfF σ i).2)), (4, .int (nI i))] (by decide) rfl dX7_safest_56 ?_
            refine g_iload C 1 rfl dX7_safest_57 ?_
            refine g_iload_n C 4 rfl dX7_safest_59 ?_
            refine g_icmp_ge C 68 (by decide) dX7_safest_60 (fun c60 => ?_) (fun c60 => ?_)
            · -- taken at 60
              have c60' := i_le c60
              
              refine g_iload_n C 4 rfl dX7_safest_68 ?_
              refine g_istore_n C [(3, .int ((sfF σ i).2)), (2, .int (sfP σ i)), (5, .int (bcF (aKs (remD i σ) 2 σ.2.1))), (0, .ref (adr 0)), (1, .int x), (4, .int (nI i))] (by decide) rfl dX7_safest_69 ?_
              refine g_iinc C 5 [(4, .int (nI (i + 1))), (3, .int ((sfF σ i).2)), (2, .int (sfP σ i)), (5, .int (bcF (aKs (remD i σ) 2 σ.2.1))), (0, .ref (adr 0)), (1, .int x)] rfl (iinc_nI i) (by decide) rfl dX7_safest_70 ?_
              refine g_goto C 21 (by decide) dX7_safest_73 ?_
              have hb := sfP_n (sf_n (Int32.not_lt.mpr c47))
              refine g_sub [4, 5, 2, 1, 0] rfl ?_
              have ev_15 : sfP σ i = sfP σ (i + 1) := by exact hb.1
              refine g_eqlv (lv1 := [(0, .ref (adr 0)), (1, .int x), (2, .int (sfP σ (i + 1))), (3, .int ((sfF σ i).2)), (4, .int (nI (i + 1)))]) (congrArg (fun z0 : Int32 => ([(0, .ref (adr 0)), (1, .int x), (2, .int z0), (3, .int ((sfF σ i).2)), (4, .int (nI (i + 1)))] : List (Nat × Value))) ev_15) ?_
              have ev_16 : (sfF σ i).2 = (sfF σ (i + 1)).2 := by exact hb.2
              refine g_eqlv (lv1 := [(0, .ref (adr 0)), (1, .int x), (2, .int (sfP σ (i + 1))), (3, .int ((sfF σ (i + 1)).2)), (4, .int (nI (i + 1)))]) (congrArg (fun z0 : Int32 => ([(0, .ref (adr 0)), (1, .int x), (2, .int (sfP σ (i + 1))), (3, .int z0), (4, .int (nI (i + 1)))] : List (Nat × Value))) ev_16) ?_
              exact ih (i + 1) _ _ _ (by omega) (by omega) h_4 h_5 h_6 h_7 h_8 h_9 h_10 h_11 h_12 hS1
            · -- not taken at 60
              have c60' := i_nle c60
              exact absurd c47 c60 --done
          · -- not taken at 47
            have c47' := i_nle c47
            refine g_iload C 5 rfl dX7_safest_50 ?_
            refine g_goto C 56 (by decide) dX7_safest_52 ?_
            refine g_istore_n C [(2, .int (nI i)), (5, .int (bcF (aKs (remD i σ) 2 σ.2.1))), (0, .ref (adr 0)), (1, .int x), (3, .int ((sfF σ i).2)), (4, .int (nI i))] (by decide) rfl dX7_safest_56 ?_
            refine g_iload C 1 rfl dX7_safest_57 ?_
            refine g_iload_n C 4 rfl dX7_safest_59 ?_
            refine g_icmp_ge C 68 (by decide) dX7_safest_60 (fun c60 => ?_) (fun c60 => ?_)
            · -- taken at 60
              have c60' := i_le c60
              exact absurd c60 c47 --done
            · -- not taken at 60
              have c60' := i_nle c60
              
              refine g_iload C 1 rfl dX7_safest_63 ?_
              refine g_goto C 69 (by decide) dX7_safest_65 ?_
              refine g_istore_n C [(3, .int (bcF (aKs (remD i σ) 2 σ.2.1))), (2, .int (nI i)), (5, .int (bcF (aKs (remD i σ) 2 σ.2.1))), (0, .ref (adr 0)), (1, .int x), (4, .int (nI i))] (by decide) rfl dX7_safest_69 ?_
              refine g_iinc C 5 [(4, .int (nI (i + 1))), (3, .int (bcF (aKs (remD i σ) 2 σ.2.1))), (2, .int (nI i)), (5, .int (bcF (aKs (remD i σ) 2 σ.2.1))), (0, .ref (adr 0)), (1, .int x)] rfl (iinc_nI i) (by decide) rfl dX7_safest_70 ?_
              refine g_goto C 21 (by decide) dX7_safest_73 ?_
              have hb := sfP_y (by omega) (sf_y hao.2.1 (Int32.not_le.mp c47))
              refine g_sub [4, 5, 2, 1, 0] rfl ?_
              have ev_17 : nI i = sfP σ (i + 1) := by exact hb.1
              refine g_eqlv (lv1 := [(0, .ref (adr 0)), (1, .int x), (2, .int (sfP σ (i + 1))), (3, .int (bcF (aKs (remD i σ) 2 σ.2.1))), (4, .int (nI (i + 1)))]) (congrArg (fun z0 : Int32 => ([(0, .ref (adr 0)), (1, .int x), (2, .int z0), (3, .int (bcF (aKs (remD i σ) 2 σ.2.1))), (4, .int (nI (i + 1)))] : List (Nat × Value))) ev_17) ?_
              have ev_18 : bcF (aKs (remD i σ) 2 σ.2.1) = (sfF σ (i + 1)).2 := by exact hb.2
              refine g_eqlv (lv1 := [(0, .ref (adr 0)), (1, .int x), (2, .int (sfP σ (i + 1))), (3, .int ((sfF σ (i + 1)).2)), (4, .int (nI (i + 1)))]) (congrArg (fun z0 : Int32 => ([(0, .ref (adr 0)), (1, .int x), (2, .int (sfP σ (i + 1))), (3, .int z0), (4, .int (nI (i + 1)))] : List (Nat × Value))) ev_18) ?_
              exact ih (i + 1) _ _ _ (by omega) (by omega) h_4 h_5 h_6 h_7 h_8 h_9 h_10 h_11 h_12 hS1
    refine g_sub [3, 4, 2, 1, 0] rfl ?_
    have ev_19 : (-1000004) = sfP σ 0 := by rfl
    refine g_eqlv (lv1 := [(0, .ref (adr 0)), (1, .int x), (2, .int (sfP σ 0)), (3, .int 7), (4, .int 0)]) (congrArg (fun z0 : Int32 => ([(0, .ref (adr 0)), (1, .int x), (2, .int z0), (3, .int 7), (4, .int 0)] : List (Nat × Value))) ev_19) ?_
    have ev_20 : 7 = (sfF σ 0).2 := by rfl
    refine g_eqlv (lv1 := [(0, .ref (adr 0)), (1, .int x), (2, .int (sfP σ 0)), (3, .int ((sfF σ 0).2)), (4, .int 0)]) (congrArg (fun z0 : Int32 => ([(0, .ref (adr 0)), (1, .int x), (2, .int (sfP σ 0)), (3, .int z0), (4, .int 0)] : List (Nat × Value))) ev_20) ?_
    exact L21 (σ.1 + 1) 0 _ _ _ (by omega) (by omega) m0 m1 m2 m3 m4 m5 m6 m7 m8 hS
  · -- not taken at 6
    have c6' := bI_f c6
    refine g_ldc C (-1000001) k43 dX7_safest_9 ?_
    refine g_iret C hr rfl hlk dX7_safest_11 ?_
    exact ⟨by unfold safestR; exact if_pos (by omega), hM0⟩
set_option maxRecDepth 100000 in
set_option maxHeartbeats 4000000 in
theorem c_X7_undo (l : Launch) (D : va_G) (kc : Nat → ClassId) (N : Nat) (adr : Nat → Nat) (cell : Nat → va_E) (σ : SD) (hn : Nat) (hi : Nat → SD) (L : Nat) (ch : Nat → Int32)  (hM : MAt cell adr kc σ hn hi L ch) (hG : Good σ) (hN : 9 ≤ N) (hgh : ∀ i, i < hn → Good (hi i)) : MI l yX7_undo wsX7_undo ({ frames := 0, cells := 0, slots := 0, locals := 0 }) D kc N adr cell [.ref (adr 0)] (fun (v : Int32) (cell1 : Nat → va_E) => undoR hn = v ∧ MAt cell1 adr kc (undoS σ hn hi) (hn - 1) hi L ch) := by
  refine met_i (cc := cX7_undo) (maxL := 2) (ret := (some .int)) (by decide) rfl (Nat.le_of_ble_eq_true rfl) (lv := [(0, .ref (adr 0))]) rfl ?_
  intro Pg Ev Sv Mi args below Me Cd Ar C hr hlk hnm
  have in7 : ∀ w ∈ u_ws RX7 TX7 12, w ∈ wsX7_undo := by decide +kernel
  have f44 := C.2.2.2.2.1 (.fieldLink RX7 44 "WordAnchorsModel" "states" "I") (by decide +kernel)
  have f7 := C.2.2.2.2.1 (.fieldLink RX7 7 "WordAnchorsModel" "s" "[I") (by decide +kernel)
  have f13 := C.2.2.2.2.1 (.fieldLink RX7 13 "WordAnchorsModel" "was" "[I") (by decide +kernel)
  have k99 := C.2.2.2.2.1 (.constant RX7 99 (-1000002)) (by decide +kernel)
  have hM0 := hM
  obtain ⟨S, Wa, Bg, As, tx, at', re, nu, mo, sh, hB, hS, hH, htx, hh4, hL60⟩ := hM
  have hB0 := hB
  obtain ⟨m0, m1, m2, m3, m4, m5, m6, m7, m8⟩ := hB
  have hg1 := hG.1
  have hg2 := hG.2.1
  have e0 := hS.1
  have e1 := hS.2.1
  have litm1000002 : ((-1000002) : Int32).toInt = -1000002 := rfl
  have litm1 : ((-1) : Int32).toInt = -1 := rfl
  have lit0 : (0 : Int32).toInt = 0 := rfl
  have lit1 : (1 : Int32).toInt = 1 := rfl
  have lit90 : (90 : Int32).toInt = 90 := rfl
  have tn___1 : (nI σ.1).toInt = ((σ.1 : Nat) : Int) := nI_toInt (by omega)
  have tn___2_1 : (nI σ.2.1).toInt = ((σ.2.1 : Nat) : Int) := nI_toInt (by omega)
  have tn_hn : (nI hn).toInt = ((hn : Nat) : Int) := nI_toInt (by omega)
  have tn_L : (nI L).toInt = ((L : Nat) : Int) := nI_toInt (by omega)
  refine g_aload_n C 0 rfl dX7_undo_0 ?_
  refine g_get C 0 7 4 (by omega) m0 rfl in7 (by decide) f44 (fun _ h9 => h9) rfl dX7_undo_1 ?_
  refine g_if_ne C 10 (by decide) dX7_undo_4 (fun c4 => ?_) (fun c4 => ?_)
  · -- taken at 4
    have c4' := i_ne c4
    refine g_aload_n C 0 rfl dX7_undo_10 ?_
    refine g_dup C rfl dX7_undo_11 ?_
    refine g_get C 0 7 4 (by omega) m0 rfl in7 (by decide) f44 (fun _ h9 => h9) rfl dX7_undo_12 ?_
    refine g_iconst C 1 (by decide) dX7_undo_15 ?_
    refine g_isub C dX7_undo_16 ?_
    refine g_eqst (show ([.int ((nI hn) - 1), .ref (adr 0)] : List Value) = ([.int (nI (hn - 1)), .ref (adr 0)] : List Value) from by rw [show nI hn - 1 = nI (hn - 1) from pk_sub (b := 1) (by omega)]) ?_
    refine g_put C 0 7 4 (by omega) m0 rfl in7 tyX7 tyX7_ok nmX7 (by decide) f44 (fun _ h9 => h9) rfl (ty := .int) (by decide +kernel) rfl rfl (Nat.le_of_ble_eq_true rfl) dX7_undo_17 ?_
    refine g_cell (fun cell2 ec2 => ?_)
    have h_3 : cell2 0 = .inr (7, [.ref (adr 1), .ref (adr 2), .ref (adr 3), .ref (adr 4), .int (nI (hn - 1)), .ref (adr 5), .int (nI L), .int at', .int re, .ref (adr 6), .ref (adr 7), .ref (adr 8)]) := by rw [ec2]; exact va_up_self _ _ _
    have h_4 : cell2 1 = .inl (kc 0, 90, .inl S) := by rw [ec2, va_up_ne _ _ (by omega)]; exact m1
    have h_5 : cell2 2 = .inl (kc 0, 360, .inl Wa) := by rw [ec2, va_up_ne _ _ (by omega)]; exact m2
    have h_6 : cell2 3 = .inl (kc 0, 90, .inl Bg) := by rw [ec2, va_up_ne _ _ (by omega)]; exact m3
    have h_7 : cell2 4 = .inl (kc 0, 90, .inl As) := by rw [ec2, va_up_ne _ _ (by omega)]; exact m4
    have h_8 : cell2 5 = .inl (kc 1, 60, .inl tx) := by rw [ec2, va_up_ne _ _ (by omega)]; exact m5
    have h_9 : cell2 6 = .inl (kc 0, 3, .inl nu) := by rw [ec2, va_up_ne _ _ (by omega)]; exact m6
    have h_10 : cell2 7 = .inl (kc 0, 40, .inl mo) := by rw [ec2, va_up_ne _ _ (by omega)]; exact m7
    have h_11 : cell2 8 = .inl (kc 0, 6, .inl sh) := by rw [ec2, va_up_ne _ _ (by omega)]; exact m8
    refine g_iconst C 0 (by decide) dX7_undo_20 ?_
    refine g_istore_n C [(1, .int 0), (0, .ref (adr 0))] (by decide) rfl dX7_undo_21 ?_
    have L22 : ∀ (fu k : Nat) (cl : Nat → va_E) , k ≤ 90 → 90 < k + fu → (q0 : cl 0 = .inr (7, [.ref (adr 1), .ref (adr 2), .ref (adr 3), .ref (adr 4), .int (nI (hn - 1)), .ref (adr 5), .int (nI L), .int at', .int re, .ref (adr 6), .ref (adr 7), .ref (adr 8)])) → (q1 : cl 1 = .inl (kc 0, 90, .inl (fill (fun j => Wa (90 * (hn - 1) + j)) S k))) → (q2 : cl 2 = .inl (kc 0, 360, .inl Wa)) → (q3 : cl 3 = .inl (kc 0, 90, .inl Bg)) → (q4 : cl 4 = .inl (kc 0, 90, .inl As)) → (q5 : cl 5 = .inl (kc 1, 60, .inl tx)) → (q6 : cl 6 = .inl (kc 0, 3, .inl nu)) → (q7 : cl 7 = .inl (kc 0, 40, .inl mo)) → (q8 : cl 8 = .inl (kc 0, 6, .inl sh)) → G Pg l Ev (headSpec wsX7_undo { frames := 0, cells := 0, slots := 0, locals := 0 }).room Sv Mi args below Me Cd D N adr Ar Sv.heap 2 0 0 (MQ below (va_Qi (fun (v : Int32) (cell1 : Nat → va_E) => undoR hn = v ∧ MAt cell1 adr kc (undoS σ hn hi) (hn - 1) hi L ch) (fun (cell1 : Nat → va_E) (t : State) => va_P D vwCl (wld N adr cell1) t.heap) Ar) args Sv 0 0 Ar) cl 22 [(0, .ref (adr 0)), (1, .int (nI k))] ([] : List Value) := by
      intro fu
      induction fu with
      | zero => intro k cl  hle hfu; exact absurd hfu (by omega)
      | succ fu ih =>
        intro k cl  hle22 hfu22 q0 q1 q2 q3 q4 q5 q6 q7 q8 
        have tn_k : (nI k).toInt = ((k : Nat) : Int) := nI_toInt (by omega)
        refine g_iload_n C 1 rfl dX7_undo_22 ?_
        refine g_bipush C 90 (by decide) dX7_undo_23 ?_
        refine g_icmp_ge C 54 (by decide) dX7_undo_25 (fun c25 => ?_) (fun c25 => ?_)
        · -- taken at 25
          have c25' := i_le c25
          obtain rfl : 90 = k := by omega
          refine g_aload_n C 0 rfl dX7_undo_54 ?_
          refine g_get C 0 7 4 (by omega) q0 rfl in7 (by decide) f44 (fun _ h9 => h9) rfl dX7_undo_55 ?_
          refine g_iret C hr rfl hlk dX7_undo_58 ?_
          have hz0 : ¬ hn = 0 := by omega
          refine ⟨if_neg hz0, ?_⟩
          rw [show undoS σ hn hi = hi (hn - 1) from if_neg hz0]
          have hg9 := hgh (hn - 1) (by omega)
          exact ⟨_, _, _, _, _, _, _, _, _, _, ⟨q0, q1, q2, q3, q4, q5, q6, q7, q8⟩, ms_cong (hH (hn - 1) (by omega)) hg9.1 hg9.2.1 (fun j hj => fill_in hj), fun i hi1 => hH i (by omega), htx, by omega, hL60⟩
        · -- not taken at 25
          have c25' := i_nle c25
          refine g_aload_n C 0 rfl dX7_undo_28 ?_
          refine g_get C 0 7 0 (by omega) q0 rfl in7 (by decide) f7 (fun _ h9 => h9) rfl dX7_undo_29 ?_
          refine g_iload_n C 1 rfl dX7_undo_32 ?_
          refine g_aload_n C 0 rfl dX7_undo_33 ?_
          refine g_get C 0 7 1 (by omega) q0 rfl in7 (by decide) f13 (fun _ h9 => h9) rfl dX7_undo_34 ?_
          refine g_bipush C 90 (by decide) dX7_undo_37 ?_
          refine g_aload_n C 0 rfl dX7_undo_39 ?_
          refine g_get C 0 7 4 (by omega) q0 rfl in7 (by decide) f44 (fun _ h9 => h9) rfl dX7_undo_40 ?_
          refine g_imul C dX7_undo_43 ?_
          refine g_eqst (st1 := ([.int (nI (90 * (hn - 1))), .ref (adr 2), .int (nI k), .ref (adr 1)] : List Value)) (congrArg (fun z0 : Int32 => (([.int z0, .ref (adr 2), .int (nI k), .ref (adr 1)] : List Value))) (mI_mul 90 (hn - 1))) ?_
          refine g_iload_n C 1 rfl dX7_undo_44 ?_
          refine g_iadd C dX7_undo_45 ?_
          refine g_eqst (st1 := ([.int (nI (90 * (hn - 1) + k)), .ref (adr 2), .int (nI k), .ref (adr 1)] : List Value)) (congrArg (fun z0 : Int32 => (([.int z0, .ref (adr 2), .int (nI k), .ref (adr 1)] : List Value))) (mI_add (90 * (hn - 1)) k)) ?_
          refine g_iald C 2 (by omega) q2 (vp_in_nI (by omega) (by omega)) dX7_undo_46 ?_
          refine g_eqst (show ([.int (Wa (nI (90 * (hn - 1) + k)).toNatClampNeg), .int (nI k), .ref (adr 1)] : List Value) = ([.int (Wa (90 * (hn - 1) + k)), .int (nI k), .ref (adr 1)] : List Value) from by rw [nI_clamp (by omega)]) ?_
          refine g_iast C 1 (by omega) q1 (vp_in_nI (by omega) (by omega)) dX7_undo_47 ?_
          refine g_cell (fun cell13 ec13 => ?_)
          have h_14 : cell13 0 = .inr (7, [.ref (adr 1), .ref (adr 2), .ref (adr 3), .ref (adr 4), .int (nI (hn - 1)), .ref (adr 5), .int (nI L), .int at', .int re, .ref (adr 6), .ref (adr 7), .ref (adr 8)]) := by rw [ec13, va_up_ne _ _ (by omega)]; exact q0
          have h_15 : cell13 1 = .inl (kc 0, 90, .inl (upd (fill (fun j => Wa (90 * (hn - 1) + j)) S k) (nI k).toNatClampNeg (Wa (90 * (hn - 1) + k)))) := by rw [ec13]; exact va_up_self _ _ _
          have h_16 : cell13 2 = .inl (kc 0, 360, .inl Wa) := by rw [ec13, va_up_ne _ _ (by omega)]; exact q2
          have h_17 : cell13 3 = .inl (kc 0, 90, .inl Bg) := by rw [ec13, va_up_ne _ _ (by omega)]; exact q3
          have h_18 : cell13 4 = .inl (kc 0, 90, .inl As) := by rw [ec13, va_up_ne _ _ (by omega)]; exact q4
          have h_19 : cell13 5 = .inl (kc 1, 60, .inl tx) := by rw [ec13, va_up_ne _ _ (by omega)]; exact q5
          have h_20 : cell13 6 = .inl (kc 0, 3, .inl nu) := by rw [ec13, va_up_ne _ _ (by omega)]; exact q6
          have h_21 : cell13 7 = .inl (kc 0, 40, .inl mo) := by rw [ec13, va_up_ne _ _ (by omega)]; exact q7
          have h_22 : cell13 8 = .inl (kc 0, 6, .inl sh) := by rw [ec13, va_up_ne _ _ (by omega)]; exact q8
          have h_24 : cell13 1 = .inl (kc 0, 90, .inl (upd (fill (fun j => Wa (90 * (hn - 1) + j)) S k) k (Wa (90 * (hn - 1) + k)))) := by rw [h_15, nI_clamp (by omega)]
          refine g_iinc C 1 [(1, .int (nI (k + 1))), (0, .ref (adr 0))] rfl (iinc_nI k) (by decide) rfl dX7_undo_48 ?_
          refine g_goto C 22 (by decide) dX7_undo_51 ?_
          refine g_sub [1, 0] rfl ?_
          have hx_25 : cell13 1 = .inl (kc 0, 90, .inl (fill (fun j => Wa (90 * (hn - 1) + j)) S (k + 1))) := h_24.trans (congrArg (fun f0 : Nat → Int32 => (.inl (kc 0, 90, .inl f0) : va_E)) (show (upd (fill (fun j => Wa (90 * (hn - 1) + j)) S k) k (Wa (90 * (hn - 1) + k))) = (fill (fun j => Wa (90 * (hn - 1) + j)) S (k + 1)) from by exact fill_upd rfl))
          exact ih (k + 1) _ (by omega) (by omega) h_14 hx_25 h_16 h_17 h_18 h_19 h_20 h_21 h_22 
    refine g_sub [1, 0] rfl ?_
    have hx_26 : cell2 1 = .inl (kc 0, 90, .inl (fill (fun j => Wa (90 * (hn - 1) + j)) S 0)) := h_4.trans (congrArg (fun f0 : Nat → Int32 => (.inl (kc 0, 90, .inl f0) : va_E)) (show S = (fill (fun j => Wa (90 * (hn - 1) + j)) S 0) from by exact fill_0))
    exact L22 (90 + 1) 0 _ (by omega) (by omega) h_3 hx_26 h_5 h_6 h_7 h_8 h_9 h_10 h_11 
  · -- not taken at 4
    have c4' := i_eq c4
    refine g_ldc C (-1000002) k99 dX7_undo_7 ?_
    refine g_iret C hr rfl hlk dX7_undo_9 ?_
    have hz0 : hn = 0 := by omega
    exact ⟨if_pos hz0, by rw [show undoS σ hn hi = σ from if_pos hz0, show hn - 1 = hn by omega]; exact hM0⟩
set_option maxRecDepth 100000 in
set_option maxHeartbeats 4000000 in
theorem c_X7_type (l : Launch) (D : va_G) (kc : Nat → ClassId) (N : Nat) (adr : Nat → Nat) (cell : Nat → va_E) (σ : SD) (hn : Nat) (hi : Nat → SD) (L : Nat) (ch : Nat → Int32) (x : Int32) (hM : MAt cell adr kc σ hn hi L ch) (hG : Good σ) (hN : 9 ≤ N) : MI l yX7_type wsX7_type ({ frames := 1, cells := 0, slots := 0, locals := 22 }) D kc N adr cell [.ref (adr 0), .int x] (fun (v : Int32) (cell1 : Nat → va_E) => typeR L x = v ∧ MAt cell1 adr kc σ hn hi (typeL L x) (typeC L ch x)) := by
  refine met_i (cc := cX7_type) (maxL := 2) (ret := (some .int)) (by decide) rfl (Nat.le_of_ble_eq_true rfl) (lv := [(0, .ref (adr 0)), (1, .int x)]) rfl ?_
  intro Pg Ev Sv Mi args below Me Cd Ar C hr hlk hnm
  have in7 : ∀ w ∈ u_ws RX7 TX7 12, w ∈ wsX7_type := by decide +kernel
  have f139 := C.2.2.2.2.1 (.fieldLink RX7 139 "WordAnchorsModel" "typed" "I") (by decide +kernel)
  have f22 := C.2.2.2.2.1 (.fieldLink RX7 22 "WordAnchorsModel" "text" "[C") (by decide +kernel)
  have k52 := C.2.2.2.2.1 (.constant RX7 52 (-1000003)) (by decide +kernel)
  have k43 := C.2.2.2.2.1 (.constant RX7 43 (-1000001)) (by decide +kernel)
  have hM0 := hM
  obtain ⟨S, Wa, Bg, As, tx, at', re, nu, mo, sh, hB, hS, hH, htx, hh4, hL60⟩ := hM
  have hB0 := hB
  obtain ⟨m0, m1, m2, m3, m4, m5, m6, m7, m8⟩ := hB
  have hg1 := hG.1
  have hg2 := hG.2.1
  have e0 := hS.1
  have e1 := hS.2.1
  have litm1000003 : ((-1000003) : Int32).toInt = -1000003 := rfl
  have litm1000001 : ((-1000001) : Int32).toInt = -1000001 := rfl
  have litm1 : ((-1) : Int32).toInt = -1 := rfl
  have lit0 : (0 : Int32).toInt = 0 := rfl
  have lit1 : (1 : Int32).toInt = 1 := rfl
  have lit32 : (32 : Int32).toInt = 32 := rfl
  have lit60 : (60 : Int32).toInt = 60 := rfl
  have lit126 : (126 : Int32).toInt = 126 := rfl
  have tn___1 : (nI σ.1).toInt = ((σ.1 : Nat) : Int) := nI_toInt (by omega)
  have tn___2_1 : (nI σ.2.1).toInt = ((σ.2.1 : Nat) : Int) := nI_toInt (by omega)
  have tn_hn : (nI hn).toInt = ((hn : Nat) : Int) := nI_toInt (by omega)
  have tn_L : (nI L).toInt = ((L : Nat) : Int) := nI_toInt (by omega)
  refine g_iload_n C 1 rfl dX7_type_0 ?_
  refine g_bipush C 32 (by decide) dX7_type_1 ?_
  refine g_bipush C 126 (by decide) dX7_type_3 ?_
  refine g_Si C [.int x, .int 32, .int 126] (c_X7_in l D kc N adr cell x 32 126) (va_cwS 3 C.2.2.2.2.1 gX7_type_X7_in rfl rfl rfl (by decide +kernel) ⟨Nat.le_of_ble_eq_true rfl, Nat.le_of_ble_eq_true rfl⟩) rfl rfl (Nat.le_of_ble_eq_true rfl) (Nat.zero_le _) (Nat.zero_le _) dX7_type_5 (fun v1 cell1 q1 => ?_)
  obtain ⟨rfl, rfl⟩ := q1
  refine g_if_ne C 14 (by decide) dX7_type_8 (fun c8 => ?_) (fun c8 => ?_)
  · -- taken at 8
    have c8' := bI_t c8
    refine g_aload_n C 0 rfl dX7_type_14 ?_
    refine g_get C 0 7 6 (by omega) m0 rfl in7 (by decide) f139 (fun _ h9 => h9) rfl dX7_type_15 ?_
    refine g_bipush C 60 (by decide) dX7_type_18 ?_
    refine g_icmp_ne C 26 (by decide) dX7_type_20 (fun c20 => ?_) (fun c20 => ?_)
    · -- taken at 20
      have c20' := i_ne c20
      have hcx : isC x := ⟨x.toNatClampNeg, by have := cl_toInt (x := x) (by omega); omega, nI_cl (by omega)⟩
      refine g_aload_n C 0 rfl dX7_type_26 ?_
      refine g_get C 0 7 5 (by omega) m0 rfl in7 (by decide) f22 (fun _ h9 => h9) rfl dX7_type_27 ?_
      refine g_aload_n C 0 rfl dX7_type_30 ?_
      refine g_get C 0 7 6 (by omega) m0 rfl in7 (by decide) f139 (fun _ h9 => h9) rfl dX7_type_31 ?_
      refine g_iload_n C 1 rfl dX7_type_34 ?_
      refine g_i2c C x (i2c_id (by omega) (by omega)) dX7_type_35 ?_
      refine g_cast C 5 (by omega) m5 (vp_in_nI (by omega) (by omega)) dX7_type_36 ?_
      refine g_cell (fun cell2 ec2 => ?_)
      have h_3 : cell2 0 = .inr (7, [.ref (adr 1), .ref (adr 2), .ref (adr 3), .ref (adr 4), .int (nI hn), .ref (adr 5), .int (nI L), .int at', .int re, .ref (adr 6), .ref (adr 7), .ref (adr 8)]) := by rw [ec2, va_up_ne _ _ (by omega)]; exact m0
      have h_4 : cell2 1 = .inl (kc 0, 90, .inl S) := by rw [ec2, va_up_ne _ _ (by omega)]; exact m1
      have h_5 : cell2 2 = .inl (kc 0, 360, .inl Wa) := by rw [ec2, va_up_ne _ _ (by omega)]; exact m2
      have h_6 : cell2 3 = .inl (kc 0, 90, .inl Bg) := by rw [ec2, va_up_ne _ _ (by omega)]; exact m3
      have h_7 : cell2 4 = .inl (kc 0, 90, .inl As) := by rw [ec2, va_up_ne _ _ (by omega)]; exact m4
      have h_8 : cell2 5 = .inl (kc 1, 60, .inl (upd tx (nI L).toNatClampNeg (vp_nar .char x))) := by rw [ec2]; exact va_up_self _ _ _
      have h_9 : cell2 6 = .inl (kc 0, 3, .inl nu) := by rw [ec2, va_up_ne _ _ (by omega)]; exact m6
      have h_10 : cell2 7 = .inl (kc 0, 40, .inl mo) := by rw [ec2, va_up_ne _ _ (by omega)]; exact m7
      have h_11 : cell2 8 = .inl (kc 0, 6, .inl sh) := by rw [ec2, va_up_ne _ _ (by omega)]; exact m8
      have h_13 : cell2 5 = .inl (kc 1, 60, .inl (upd tx L x)) := by rw [h_8, nI_clamp (by omega), isC_p hcx]
      refine g_aload_n C 0 rfl dX7_type_37 ?_
      refine g_dup C rfl dX7_type_38 ?_
      refine g_get C 0 7 6 (by omega) h_3 rfl in7 (by decide) f139 (fun _ h9 => h9) rfl dX7_type_39 ?_
      refine g_iconst C 1 (by decide) dX7_type_42 ?_
      refine g_iadd C dX7_type_43 ?_
      refine g_eqst (st1 := ([.int (nI (L + 1)), .ref (adr 0)] : List Value)) (congrArg (fun z0 : Int32 => (([.int z0, .ref (adr 0)] : List Value))) (mI_add L 1)) ?_
      refine g_put C 0 7 6 (by omega) h_3 rfl in7 tyX7 tyX7_ok nmX7 (by decide) f139 (fun _ h9 => h9) rfl (ty := .int) (by decide +kernel) rfl rfl (Nat.le_of_ble_eq_true rfl) dX7_type_44 ?_
      refine g_cell (fun cell14 ec14 => ?_)
      have h_15 : cell14 0 = .inr (7, [.ref (adr 1), .ref (adr 2), .ref (adr 3), .ref (adr 4), .int (nI hn), .ref (adr 5), .int (nI (L + 1)), .int at', .int re, .ref (adr 6), .ref (adr 7), .ref (adr 8)]) := by rw [ec14]; exact va_up_self _ _ _
      have h_16 : cell14 1 = .inl (kc 0, 90, .inl S) := by rw [ec14, va_up_ne _ _ (by omega)]; exact h_4
      have h_17 : cell14 2 = .inl (kc 0, 360, .inl Wa) := by rw [ec14, va_up_ne _ _ (by omega)]; exact h_5
      have h_18 : cell14 3 = .inl (kc 0, 90, .inl Bg) := by rw [ec14, va_up_ne _ _ (by omega)]; exact h_6
      have h_19 : cell14 4 = .inl (kc 0, 90, .inl As) := by rw [ec14, va_up_ne _ _ (by omega)]; exact h_7
      have h_20 : cell14 5 = .inl (kc 1, 60, .inl (upd tx L x)) := by rw [ec14, va_up_ne _ _ (by omega)]; exact h_13
      have h_21 : cell14 6 = .inl (kc 0, 3, .inl nu) := by rw [ec14, va_up_ne _ _ (by omega)]; exact h_9
      have h_22 : cell14 7 = .inl (kc 0, 40, .inl mo) := by rw [ec14, va_up_ne _ _ (by omega)]; exact h_10
      have h_23 : cell14 8 = .inl (kc 0, 6, .inl sh) := by rw [ec14, va_up_ne _ _ (by omega)]; exact h_11
      refine g_aload_n C 0 rfl dX7_type_47 ?_
      refine g_get C 0 7 6 (by omega) h_15 rfl in7 (by decide) f139 (fun _ h9 => h9) rfl dX7_type_48 ?_
      refine g_iret C hr rfl hlk dX7_type_51 ?_
      have hok : tyOk L x := ⟨by omega, by omega⟩
      have htx1 : ∀ j : Nat, j < L + 1 → upd tx L x j = upd ch L x j := fun j hj => by
        by_cases e : j = L
        · rw [e, upd_s, upd_s]
        · rw [upd_n e, upd_n e]; exact htx j (by omega)
      refine ⟨by unfold typeR; rw [if_neg (by omega), if_neg (by omega)], ?_⟩
      rw [show typeL L x = L + 1 from if_pos hok, show typeC L ch x = upd ch L x from if_pos hok]
      exact ⟨_, _, _, _, _, _, _, _, _, _, ⟨h_15, h_16, h_17, h_18, h_19, h_20, h_21, h_22, h_23⟩, hS, hH, htx1, hh4, by omega⟩
    · -- not taken at 20
      have c20' := i_eq c20
      refine g_ldc C (-1000003) k52 dX7_type_23 ?_
      refine g_iret C hr rfl hlk dX7_type_25 ?_
      have hno : ¬ tyOk L x := fun h => by have h1 := h.1; have h2 := h.2; omega
      exact ⟨by unfold typeR; rw [if_neg (by omega)]; exact if_pos (by omega), by rw [show typeL L x = L from if_neg hno, show typeC L ch x = ch from if_neg hno]; exact hM0⟩
  · -- not taken at 8
    have c8' := bI_f c8
    refine g_ldc C (-1000001) k43 dX7_type_11 ?_
    refine g_iret C hr rfl hlk dX7_type_13 ?_
    have hno : ¬ tyOk L x := fun h => by have h1 := h.1; have h2 := h.2; omega
    exact ⟨by unfold typeR; exact if_pos (by omega), by rw [show typeL L x = L from if_neg hno, show typeC L ch x = ch from if_neg hno]; exact hM0⟩
set_option maxRecDepth 100000 in
set_option maxHeartbeats 4000000 in
theorem c_X7_clearText (l : Launch) (D : va_G) (kc : Nat → ClassId) (N : Nat) (adr : Nat → Nat) (cell : Nat → va_E) (σ : SD) (hn : Nat) (hi : Nat → SD) (L : Nat) (ch : Nat → Int32)  (hM : MAt cell adr kc σ hn hi L ch) (hG : Good σ) (hN : 9 ≤ N) : MI l yX7_clearText wsX7_clearText ({ frames := 0, cells := 0, slots := 0, locals := 0 }) D kc N adr cell [.ref (adr 0)] (fun (v : Int32) (cell1 : Nat → va_E) => nI L = v ∧ MAt cell1 adr kc σ hn hi 0 ch) := by
  refine met_i (cc := cX7_clearText) (maxL := 2) (ret := (some .int)) (by decide) rfl (Nat.le_of_ble_eq_true rfl) (lv := [(0, .ref (adr 0))]) rfl ?_
  intro Pg Ev Sv Mi args below Me Cd Ar C hr hlk hnm
  have in7 : ∀ w ∈ u_ws RX7 TX7 12, w ∈ wsX7_clearText := by decide +kernel
  have f139 := C.2.2.2.2.1 (.fieldLink RX7 139 "WordAnchorsModel" "typed" "I") (by decide +kernel)
  have hM0 := hM
  obtain ⟨S, Wa, Bg, As, tx, at', re, nu, mo, sh, hB, hS, hH, htx, hh4, hL60⟩ := hM
  have hB0 := hB
  obtain ⟨m0, m1, m2, m3, m4, m5, m6, m7, m8⟩ := hB
  have hg1 := hG.1
  have hg2 := hG.2.1
  have e0 := hS.1
  have e1 := hS.2.1
  have litm1 : ((-1) : Int32).toInt = -1 := rfl
  have lit0 : (0 : Int32).toInt = 0 := rfl
  have lit1 : (1 : Int32).toInt = 1 := rfl
  have tn___1 : (nI σ.1).toInt = ((σ.1 : Nat) : Int) := nI_toInt (by omega)
  have tn___2_1 : (nI σ.2.1).toInt = ((σ.2.1 : Nat) : Int) := nI_toInt (by omega)
  have tn_hn : (nI hn).toInt = ((hn : Nat) : Int) := nI_toInt (by omega)
  have tn_L : (nI L).toInt = ((L : Nat) : Int) := nI_toInt (by omega)
  refine g_aload_n C 0 rfl dX7_clearText_0 ?_
  refine g_get C 0 7 6 (by omega) m0 rfl in7 (by decide) f139 (fun _ h9 => h9) rfl dX7_clearText_1 ?_
  refine g_istore_n C [(1, .int (nI L)), (0, .ref (adr 0))] (by decide) rfl dX7_clearText_4 ?_
  refine g_aload_n C 1 rfl dX7_clearText_5 ?_
  refine g_iconst C 0 (by decide) dX7_clearText_6 ?_
  refine g_put C 0 7 6 (by omega) m0 rfl in7 tyX7 tyX7_ok nmX7 (by decide) f139 (fun _ h9 => h9) rfl (ty := .int) (by decide +kernel) rfl rfl (Nat.le_of_ble_eq_true rfl) dX7_clearText_7 ?_
  refine g_cell (fun cell1 ec1 => ?_)
  have h_2 : cell1 0 = .inr (7, [.ref (adr 1), .ref (adr 2), .ref (adr 3), .ref (adr 4), .int (nI hn), .ref (adr 5), .int 0, .int at', .int re, .ref (adr 6), .ref (adr 7), .ref (adr 8)]) := by rw [ec1]; exact va_up_self _ _ _
  have h_3 : cell1 1 = .inl (kc 0, 90, .inl S) := by rw [ec1, va_up_ne _ _ (by omega)]; exact m1
  have h_4 : cell1 2 = .inl (kc 0, 360, .inl Wa) := by rw [ec1, va_up_ne _ _ (by omega)]; exact m2
  have h_5 : cell1 3 = .inl (kc 0, 90, .inl Bg) := by rw [ec1, va_up_ne _ _ (by omega)]; exact m3
  have h_6 : cell1 4 = .inl (kc 0, 90, .inl As) := by rw [ec1, va_up_ne _ _ (by omega)]; exact m4
  have h_7 : cell1 5 = .inl (kc 1, 60, .inl tx) := by rw [ec1, va_up_ne _ _ (by omega)]; exact m5
  have h_8 : cell1 6 = .inl (kc 0, 3, .inl nu) := by rw [ec1, va_up_ne _ _ (by omega)]; exact m6
  have h_9 : cell1 7 = .inl (kc 0, 40, .inl mo) := by rw [ec1, va_up_ne _ _ (by omega)]; exact m7
  have h_10 : cell1 8 = .inl (kc 0, 6, .inl sh) := by rw [ec1, va_up_ne _ _ (by omega)]; exact m8
  refine g_iload_n C 0 rfl dX7_clearText_10 ?_
  refine g_iret C hr rfl hlk dX7_clearText_11 ?_
  exact ⟨rfl, ⟨_, _, _, _, _, _, _, _, _, _, ⟨h_2, h_3, h_4, h_5, h_6, h_7, h_8, h_9, h_10⟩, hS, hH, fun j hj => absurd hj (Nat.not_lt_zero j), hh4, by omega⟩⟩
