set_option maxRecDepth 100000 in
set_option maxHeartbeats 4000000 in
theorem c_X7_scoreAt (l : Launch) (D : va_G) (kc : Nat → ClassId) (N : Nat) (adr : Nat → Nat) (cell : Nat → va_E) (S Wa Bg As tx : Nat → Int32) (st ty at' re : Int32) (nu mo sh : Nat → Int32) (σ : SD) (a : Nat) (x : Int32) (hB : MB cell adr kc S Wa Bg As st tx ty at' re nu mo sh) (hN : 9 ≤ N) (hS : MS S σ) (hG : Good σ) (ha : a < σ.2.1) : MI l yX7_scoreAt wsX7_scoreAt ({ frames := 3, cells := 0, slots := 0, locals := 64 }) D kc N adr cell [.ref (adr 0), .int (nI a), .int x] (fun (v : Int32) (cell1 : Nat → va_E) => scr σ.1 σ.2.2.2.1 σ.2.2.2.2.2.2.1 (σ.2.2.2.2.2.2.2.2.2 a) x = v ∧ cell = cell1) := by
  refine met_i (cc := cX7_scoreAt) (maxL := 6) (ret := (some .int)) (by decide) rfl (Nat.le_of_ble_eq_true rfl) (lv := [(0, .ref (adr 0)), (1, .int (nI a)), (2, .int x)]) rfl ?_
  intro Pg Ev Sv Mi args below Me Cd Ar C hr hlk hnm
  have in7 : ∀ w ∈ u_ws RX7 TX7 12, w ∈ wsX7_scoreAt := by decide +kernel
  have f7 := C.2.2.2.2.1 (.fieldLink RX7 7 "WordAnchorsModel" "s" "[I") (by decide +kernel)
  have hB0 := hB
  obtain ⟨m0, m1, m2, m3, m4, m5, m6, m7, m8⟩ := hB
  have hg1 := hG.1
  have hg2 := hG.2.1
  have e0 := hS.1
  have e1 := hS.2.1
  have litm1 : ((-1) : Int32).toInt = -1 := rfl
  have lit0 : (0 : Int32).toInt = 0 := rfl
  have lit1 : (1 : Int32).toInt = 1 := rfl
  have lit2 : (2 : Int32).toInt = 2 := rfl
  have lit3 : (3 : Int32).toInt = 3 := rfl
  have lit5 : (5 : Int32).toInt = 5 := rfl
  refine g_iconst C 0 (by decide) dX7_scoreAt_0 ?_
  refine g_istore_n C [(3, .int 0), (0, .ref (adr 0)), (1, .int (nI a)), (2, .int x)] (by decide) rfl dX7_scoreAt_1 ?_
  refine g_iconst C 0 (by decide) dX7_scoreAt_2 ?_
  refine g_istore C [(4, .int 0), (3, .int 0), (0, .ref (adr 0)), (1, .int (nI a)), (2, .int x)] (by decide) rfl dX7_scoreAt_3 ?_
  have L5 : ∀ (fu i : Nat) , i ≤ 5 → 5 < i + fu → G Pg l Ev (headSpec wsX7_scoreAt { frames := 3, cells := 0, slots := 0, locals := 64 }).room Sv Mi args below Me Cd D N adr Ar Sv.heap 6 0 0 (MQ below (va_Qi (fun (v : Int32) (cell1 : Nat → va_E) => scr σ.1 σ.2.2.2.1 σ.2.2.2.2.2.2.1 (σ.2.2.2.2.2.2.2.2.2 a) x = v ∧ cell = cell1) (fun (cell1 : Nat → va_E) (t : State) => va_P D vwCl (wld N adr cell1) t.heap) Ar) args Sv 0 0 Ar) cell 5 [(0, .ref (adr 0)), (1, .int (nI a)), (2, .int x), (3, .int (scF σ.1 σ.2.2.2.1 σ.2.2.2.2.2.2.1 (σ.2.2.2.2.2.2.2.2.2 a) x i)), (4, .int (nI i))] ([] : List Value) := by
    intro fu
    induction fu with
    | zero => intro i  hle hfu; exact absurd hfu (by omega)
    | succ fu ih =>
      intro i  hle5 hfu5  
      have tn_i : (nI i).toInt = ((i : Nat) : Int) := nI_toInt (by omega)
      refine g_iload C 4 rfl dX7_scoreAt_5 ?_
      refine g_iconst C 5 (by decide) dX7_scoreAt_7 ?_
      refine g_icmp_ge C 74 (by decide) dX7_scoreAt_8 (fun c8 => ?_) (fun c8 => ?_)
      · -- taken at 8
        have c8' := i_le c8
        obtain rfl : 5 = i := by omega
        refine g_iload_n C 3 rfl dX7_scoreAt_74 ?_
        refine g_iret C hr rfl hlk dX7_scoreAt_75 ?_
        exact ⟨rfl, rfl⟩
      · -- not taken at 8
        have c8' := i_nle c8
        refine g_iload C 4 rfl dX7_scoreAt_11 ?_
        refine g_iconst C 2 (by decide) dX7_scoreAt_13 ?_
        refine g_icmp_ge C 24 (by decide) dX7_scoreAt_14 (fun c14 => ?_) (fun c14 => ?_)
        · -- taken at 14
          have c14' := i_le c14
          refine g_iload C 4 rfl dX7_scoreAt_24 ?_
          refine g_iconst C 2 (by decide) dX7_scoreAt_26 ?_
          refine g_isub C dX7_scoreAt_27 ?_
          refine g_eqst (show ([.int ((nI i) - 2)] : List Value) = ([.int (nI (i - 2))] : List Value) from by rw [show nI i - 2 = nI (i - 2) from mI_sub (b := 2) (by omega) (by omega)]) ?_
          refine g_istore C [(5, .int (nI (i - 2))), (0, .ref (adr 0)), (1, .int (nI a)), (2, .int x), (3, .int (scF σ.1 σ.2.2.2.1 σ.2.2.2.2.2.2.1 (σ.2.2.2.2.2.2.2.2.2 a) x i)), (4, .int (nI i))] (by decide) rfl dX7_scoreAt_28 ?_
          refine g_iload_n C 4 rfl dX7_scoreAt_30 ?_
          refine g_aload_n C 1 rfl dX7_scoreAt_31 ?_
          refine g_iload_n C 3 rfl dX7_scoreAt_32 ?_
          refine g_iload C 5 rfl dX7_scoreAt_33 ?_
          refine g_iadd C dX7_scoreAt_35 ?_
          refine g_iconst C 2 (by decide) dX7_scoreAt_36 ?_
          refine g_isub C dX7_scoreAt_37 ?_
          refine g_Vi C [.int ((x + (nI i)) - 2)] 0 7 (by omega) m0 rfl (c_X7_word l D kc N adr cell S Wa Bg As tx st ty at' re nu mo sh σ ((x + (nI i)) - 2) ⟨m0, m1, m2, m3, m4, m5, m6, m7, m8⟩ (by omega) hS hG.1 hG.2.1) (cwV 1 C.2.2.2.2.1 gX7_scoreAt_X7_word rfl rfl rfl (by decide +kernel) ⟨Nat.le_of_ble_eq_true rfl, Nat.le_of_ble_eq_true rfl⟩) rfl rfl (Nat.le_of_ble_eq_true rfl) (Nat.zero_le _) (Nat.zero_le _) dX7_scoreAt_38 (fun v2 cell2 q2 => ?_)
          obtain ⟨rfl, rfl⟩ := q2
          refine g_aload_n C 1 rfl dX7_scoreAt_41 ?_
          refine g_iload_n C 2 rfl dX7_scoreAt_42 ?_
          refine g_iconst C 2 (by decide) dX7_scoreAt_43 ?_
          refine g_iload C 5 rfl dX7_scoreAt_44 ?_
          refine g_iadd C dX7_scoreAt_46 ?_
          refine g_eqst (st1 := ([.int (nI (2 + i)), .int (nI a), .ref (adr 0), .int (atF σ.1 σ.2.2.2.1 ((x + (nI i)) - 2)), .int (scF σ.1 σ.2.2.2.1 σ.2.2.2.2.2.2.1 (σ.2.2.2.2.2.2.2.2.2 a) x i)] : List Value)) (congrArg (fun z0 : Int32 => (([.int z0, .int (nI a), .ref (adr 0), .int (atF σ.1 σ.2.2.2.1 ((x + (nI i)) - 2)), .int (scF σ.1 σ.2.2.2.1 σ.2.2.2.2.2.2.1 (σ.2.2.2.2.2.2.2.2.2 a) x i)] : List Value))) (mI_add 2 i)) ?_
          refine g_Vi C [.int (nI a), .int (nI (2 + i))] 0 7 (by omega) m0 rfl (c_X7_an l D kc N adr cell S Wa Bg As tx st ty at' re nu mo sh a (2 + i) ⟨m0, m1, m2, m3, m4, m5, m6, m7, m8⟩ (by omega) (by omega)) (cwV 2 C.2.2.2.2.1 gX7_scoreAt_X7_an rfl rfl rfl (by decide +kernel) ⟨Nat.le_of_ble_eq_true rfl, Nat.le_of_ble_eq_true rfl⟩) rfl rfl (Nat.le_of_ble_eq_true rfl) (Nat.zero_le _) (Nat.zero_le _) dX7_scoreAt_47 (fun v3 cell3 q3 => ?_)
          obtain ⟨rfl, rfl⟩ := q3
          refine g_eqst (st1 := ([.int (σ.2.2.2.2.2.2.2.2.2 a i), .int (atF σ.1 σ.2.2.2.1 ((x + (nI i)) - 2)), .int (scF σ.1 σ.2.2.2.1 σ.2.2.2.2.2.2.1 (σ.2.2.2.2.2.2.2.2.2 a) x i)] : List Value)) (by rw [(congrArg S (by omega : 48 + 7 * a + (2 + i) = 50 + 7 * a + i)).trans ((hS.2.2.2.2.2 a ha).2.2 i (by omega))]) ?_
          refine g_icmp_ne C 65 (by decide) dX7_scoreAt_50 (fun c50 => ?_) (fun c50 => ?_)
          · -- taken at 50
            have c50' := i_ne c50
            refine g_iconst C 0 (by decide) dX7_scoreAt_65 ?_
            refine g_iadd C dX7_scoreAt_66 ?_
            refine g_istore_n C [(3, .int ((scF σ.1 σ.2.2.2.1 σ.2.2.2.2.2.2.1 (σ.2.2.2.2.2.2.2.2.2 a) x i) + 0)), (5, .int (nI (i - 2))), (0, .ref (adr 0)), (1, .int (nI a)), (2, .int x), (4, .int (nI i))] (by decide) rfl dX7_scoreAt_67 ?_
            refine g_iinc C 5 [(4, .int (nI (i + 1))), (3, .int ((scF σ.1 σ.2.2.2.1 σ.2.2.2.2.2.2.1 (σ.2.2.2.2.2.2.2.2.2 a) x i) + 0)), (5, .int (nI (i - 2))), (0, .ref (adr 0)), (1, .int (nI a)), (2, .int x)] rfl (iinc_nI i) (by decide) rfl dX7_scoreAt_68 ?_
            refine g_goto C 5 (by decide) dX7_scoreAt_71 ?_
            refine g_sub [3, 4, 5, 1, 0] rfl ?_
            have ev_5 : (scF σ.1 σ.2.2.2.1 σ.2.2.2.2.2.2.1 (σ.2.2.2.2.2.2.2.2.2 a) x i) + 0 = scF σ.1 σ.2.2.2.1 σ.2.2.2.2.2.2.1 (σ.2.2.2.2.2.2.2.2.2 a) x (i + 1) := by first | exact scF_yes c50.symm | exact (Int32.add_zero _).trans (scF_no (fun h => c50 h.symm))
            refine g_eqlv (lv1 := [(0, .ref (adr 0)), (1, .int (nI a)), (2, .int x), (3, .int (scF σ.1 σ.2.2.2.1 σ.2.2.2.2.2.2.1 (σ.2.2.2.2.2.2.2.2.2 a) x (i + 1))), (4, .int (nI (i + 1)))]) (congrArg (fun z0 : Int32 => ([(0, .ref (adr 0)), (1, .int (nI a)), (2, .int x), (3, .int z0), (4, .int (nI (i + 1)))] : List (Nat × Value))) ev_5) ?_
            exact ih (i + 1) (by omega) (by omega) 
          · -- not taken at 50
            have c50' := i_eq c50
            refine g_aload_n C 1 rfl dX7_scoreAt_53 ?_
            refine g_get C 0 7 0 (by omega) m0 rfl in7 (by decide) f7 (fun _ h9 => h9) rfl dX7_scoreAt_54 ?_
            refine g_iconst C 3 (by decide) dX7_scoreAt_57 ?_
            refine g_iload C 0 rfl dX7_scoreAt_58 ?_
            refine g_iadd C dX7_scoreAt_60 ?_
            refine g_eqst (st1 := ([.int (nI (3 + (i - 2))), .ref (adr 1), .int (scF σ.1 σ.2.2.2.1 σ.2.2.2.2.2.2.1 (σ.2.2.2.2.2.2.2.2.2 a) x i)] : List Value)) (congrArg (fun z0 : Int32 => (([.int z0, .ref (adr 1), .int (scF σ.1 σ.2.2.2.1 σ.2.2.2.2.2.2.1 (σ.2.2.2.2.2.2.2.2.2 a) x i)] : List Value))) (mI_add 3 (i - 2))) ?_
            refine g_iald C 1 (by omega) m1 (vp_in_nI (by omega) (by omega)) dX7_scoreAt_61 ?_
            refine g_eqst (show ([.int (S (nI (3 + (i - 2))).toNatClampNeg), .int (scF σ.1 σ.2.2.2.1 σ.2.2.2.2.2.2.1 (σ.2.2.2.2.2.2.2.2.2 a) x i)] : List Value) = ([.int (S (3 + (i - 2))), .int (scF σ.1 σ.2.2.2.1 σ.2.2.2.2.2.2.1 (σ.2.2.2.2.2.2.2.2.2 a) x i)] : List Value) from by rw [nI_clamp (by omega)]) ?_
            refine g_eqst (show ([.int (S (3 + (i - 2))), .int (scF σ.1 σ.2.2.2.1 σ.2.2.2.2.2.2.1 (σ.2.2.2.2.2.2.2.2.2 a) x i)] : List Value) = ([.int (wgt σ.2.2.2.2.2.2.1 i), .int (scF σ.1 σ.2.2.2.1 σ.2.2.2.2.2.2.1 (σ.2.2.2.2.2.2.2.2.2 a) x i)] : List Value) from by rw [hS.2.2.2.1 (i - 2) (by omega)]; unfold wgt; rw [if_neg (by omega)]) ?_
            refine g_goto C 66 (by decide) dX7_scoreAt_62 ?_
            refine g_iadd C dX7_scoreAt_66 ?_
            refine g_istore_n C [(3, .int ((scF σ.1 σ.2.2.2.1 σ.2.2.2.2.2.2.1 (σ.2.2.2.2.2.2.2.2.2 a) x i) + (wgt σ.2.2.2.2.2.2.1 i))), (5, .int (nI (i - 2))), (0, .ref (adr 0)), (1, .int (nI a)), (2, .int x), (4, .int (nI i))] (by decide) rfl dX7_scoreAt_67 ?_
            refine g_iinc C 5 [(4, .int (nI (i + 1))), (3, .int ((scF σ.1 σ.2.2.2.1 σ.2.2.2.2.2.2.1 (σ.2.2.2.2.2.2.2.2.2 a) x i) + (wgt σ.2.2.2.2.2.2.1 i))), (5, .int (nI (i - 2))), (0, .ref (adr 0)), (1, .int (nI a)), (2, .int x)] rfl (iinc_nI i) (by decide) rfl dX7_scoreAt_68 ?_
            refine g_goto C 5 (by decide) dX7_scoreAt_71 ?_
            refine g_sub [3, 4, 5, 1, 0] rfl ?_
            have ev_7 : (scF σ.1 σ.2.2.2.1 σ.2.2.2.2.2.2.1 (σ.2.2.2.2.2.2.2.2.2 a) x i) + (wgt σ.2.2.2.2.2.2.1 i) = scF σ.1 σ.2.2.2.1 σ.2.2.2.2.2.2.1 (σ.2.2.2.2.2.2.2.2.2 a) x (i + 1) := by first | exact scF_yes c50.symm | exact (Int32.add_zero _).trans (scF_no (fun h => c50 h.symm))
            refine g_eqlv (lv1 := [(0, .ref (adr 0)), (1, .int (nI a)), (2, .int x), (3, .int (scF σ.1 σ.2.2.2.1 σ.2.2.2.2.2.2.1 (σ.2.2.2.2.2.2.2.2.2 a) x (i + 1))), (4, .int (nI (i + 1)))]) (congrArg (fun z0 : Int32 => ([(0, .ref (adr 0)), (1, .int (nI a)), (2, .int x), (3, .int z0), (4, .int (nI (i + 1)))] : List (Nat × Value))) ev_7) ?_
            exact ih (i + 1) (by omega) (by omega) 
        · -- not taken at 14
          have c14' := i_nle c14
          refine g_iconst C 2 (by decide) dX7_scoreAt_17 ?_
          refine g_iload C 4 rfl dX7_scoreAt_18 ?_
          refine g_isub C dX7_scoreAt_20 ?_
          refine g_eqst (show ([.int (2 - (nI i))] : List Value) = ([.int (nI (2 - i))] : List Value) from by rw [show (2 : Int32) - nI i = nI (2 - i) from mI_sub (a := 2) (by omega) (by omega)]) ?_
          refine g_goto C 28 (by decide) dX7_scoreAt_21 ?_
          refine g_istore C [(5, .int (nI (2 - i))), (0, .ref (adr 0)), (1, .int (nI a)), (2, .int x), (3, .int (scF σ.1 σ.2.2.2.1 σ.2.2.2.2.2.2.1 (σ.2.2.2.2.2.2.2.2.2 a) x i)), (4, .int (nI i))] (by decide) rfl dX7_scoreAt_28 ?_
          refine g_iload_n C 4 rfl dX7_scoreAt_30 ?_
          refine g_aload_n C 1 rfl dX7_scoreAt_31 ?_
          refine g_iload_n C 3 rfl dX7_scoreAt_32 ?_
          refine g_iload C 5 rfl dX7_scoreAt_33 ?_
          refine g_iadd C dX7_scoreAt_35 ?_
          refine g_iconst C 2 (by decide) dX7_scoreAt_36 ?_
          refine g_isub C dX7_scoreAt_37 ?_
          refine g_Vi C [.int ((x + (nI i)) - 2)] 0 7 (by omega) m0 rfl (c_X7_word l D kc N adr cell S Wa Bg As tx st ty at' re nu mo sh σ ((x + (nI i)) - 2) ⟨m0, m1, m2, m3, m4, m5, m6, m7, m8⟩ (by omega) hS hG.1 hG.2.1) (cwV 1 C.2.2.2.2.1 gX7_scoreAt_X7_word rfl rfl rfl (by decide +kernel) ⟨Nat.le_of_ble_eq_true rfl, Nat.le_of_ble_eq_true rfl⟩) rfl rfl (Nat.le_of_ble_eq_true rfl) (Nat.zero_le _) (Nat.zero_le _) dX7_scoreAt_38 (fun v9 cell9 q9 => ?_)
          obtain ⟨rfl, rfl⟩ := q9
          refine g_aload_n C 1 rfl dX7_scoreAt_41 ?_
          refine g_iload_n C 2 rfl dX7_scoreAt_42 ?_
          refine g_iconst C 2 (by decide) dX7_scoreAt_43 ?_
          refine g_iload C 5 rfl dX7_scoreAt_44 ?_
          refine g_iadd C dX7_scoreAt_46 ?_
          refine g_eqst (st1 := ([.int (nI (2 + i)), .int (nI a), .ref (adr 0), .int (atF σ.1 σ.2.2.2.1 ((x + (nI i)) - 2)), .int (scF σ.1 σ.2.2.2.1 σ.2.2.2.2.2.2.1 (σ.2.2.2.2.2.2.2.2.2 a) x i)] : List Value)) (congrArg (fun z0 : Int32 => (([.int z0, .int (nI a), .ref (adr 0), .int (atF σ.1 σ.2.2.2.1 ((x + (nI i)) - 2)), .int (scF σ.1 σ.2.2.2.1 σ.2.2.2.2.2.2.1 (σ.2.2.2.2.2.2.2.2.2 a) x i)] : List Value))) (mI_add 2 i)) ?_
          refine g_Vi C [.int (nI a), .int (nI (2 + i))] 0 7 (by omega) m0 rfl (c_X7_an l D kc N adr cell S Wa Bg As tx st ty at' re nu mo sh a (2 + i) ⟨m0, m1, m2, m3, m4, m5, m6, m7, m8⟩ (by omega) (by omega)) (cwV 2 C.2.2.2.2.1 gX7_scoreAt_X7_an rfl rfl rfl (by decide +kernel) ⟨Nat.le_of_ble_eq_true rfl, Nat.le_of_ble_eq_true rfl⟩) rfl rfl (Nat.le_of_ble_eq_true rfl) (Nat.zero_le _) (Nat.zero_le _) dX7_scoreAt_47 (fun v10 cell10 q10 => ?_)
          obtain ⟨rfl, rfl⟩ := q10
          refine g_eqst (st1 := ([.int (σ.2.2.2.2.2.2.2.2.2 a i), .int (atF σ.1 σ.2.2.2.1 ((x + (nI i)) - 2)), .int (scF σ.1 σ.2.2.2.1 σ.2.2.2.2.2.2.1 (σ.2.2.2.2.2.2.2.2.2 a) x i)] : List Value)) (by rw [(congrArg S (by omega : 48 + 7 * a + (2 + i) = 50 + 7 * a + i)).trans ((hS.2.2.2.2.2 a ha).2.2 i (by omega))]) ?_
          refine g_icmp_ne C 65 (by decide) dX7_scoreAt_50 (fun c50 => ?_) (fun c50 => ?_)
          · -- taken at 50
            have c50' := i_ne c50
            refine g_iconst C 0 (by decide) dX7_scoreAt_65 ?_
            refine g_iadd C dX7_scoreAt_66 ?_
            refine g_istore_n C [(3, .int ((scF σ.1 σ.2.2.2.1 σ.2.2.2.2.2.2.1 (σ.2.2.2.2.2.2.2.2.2 a) x i) + 0)), (5, .int (nI (2 - i))), (0, .ref (adr 0)), (1, .int (nI a)), (2, .int x), (4, .int (nI i))] (by decide) rfl dX7_scoreAt_67 ?_
            refine g_iinc C 5 [(4, .int (nI (i + 1))), (3, .int ((scF σ.1 σ.2.2.2.1 σ.2.2.2.2.2.2.1 (σ.2.2.2.2.2.2.2.2.2 a) x i) + 0)), (5, .int (nI (2 - i))), (0, .ref (adr 0)), (1, .int (nI a)), (2, .int x)] rfl (iinc_nI i) (by decide) rfl dX7_scoreAt_68 ?_
            refine g_goto C 5 (by decide) dX7_scoreAt_71 ?_
            refine g_sub [3, 4, 5, 1, 0] rfl ?_
            have ev_12 : (scF σ.1 σ.2.2.2.1 σ.2.2.2.2.2.2.1 (σ.2.2.2.2.2.2.2.2.2 a) x i) + 0 = scF σ.1 σ.2.2.2.1 σ.2.2.2.2.2.2.1 (σ.2.2.2.2.2.2.2.2.2 a) x (i + 1) := by first | exact scF_yes c50.symm | exact (Int32.add_zero _).trans (scF_no (fun h => c50 h.symm))
            refine g_eqlv (lv1 := [(0, .ref (adr 0)), (1, .int (nI a)), (2, .int x), (3, .int (scF σ.1 σ.2.2.2.1 σ.2.2.2.2.2.2.1 (σ.2.2.2.2.2.2.2.2.2 a) x (i + 1))), (4, .int (nI (i + 1)))]) (congrArg (fun z0 : Int32 => ([(0, .ref (adr 0)), (1, .int (nI a)), (2, .int x), (3, .int z0), (4, .int (nI (i + 1)))] : List (Nat × Value))) ev_12) ?_
            exact ih (i + 1) (by omega) (by omega) 
          · -- not taken at 50
            have c50' := i_eq c50
            refine g_aload_n C 1 rfl dX7_scoreAt_53 ?_
            refine g_get C 0 7 0 (by omega) m0 rfl in7 (by decide) f7 (fun _ h9 => h9) rfl dX7_scoreAt_54 ?_
            refine g_iconst C 3 (by decide) dX7_scoreAt_57 ?_
            refine g_iload C 0 rfl dX7_scoreAt_58 ?_
            refine g_iadd C dX7_scoreAt_60 ?_
            refine g_eqst (st1 := ([.int (nI (3 + (2 - i))), .ref (adr 1), .int (scF σ.1 σ.2.2.2.1 σ.2.2.2.2.2.2.1 (σ.2.2.2.2.2.2.2.2.2 a) x i)] : List Value)) (congrArg (fun z0 : Int32 => (([.int z0, .ref (adr 1), .int (scF σ.1 σ.2.2.2.1 σ.2.2.2.2.2.2.1 (σ.2.2.2.2.2.2.2.2.2 a) x i)] : List Value))) (mI_add 3 (2 - i))) ?_
            refine g_iald C 1 (by omega) m1 (vp_in_nI (by omega) (by omega)) dX7_scoreAt_61 ?_
            refine g_eqst (show ([.int (S (nI (3 + (2 - i))).toNatClampNeg), .int (scF σ.1 σ.2.2.2.1 σ.2.2.2.2.2.2.1 (σ.2.2.2.2.2.2.2.2.2 a) x i)] : List Value) = ([.int (S (3 + (2 - i))), .int (scF σ.1 σ.2.2.2.1 σ.2.2.2.2.2.2.1 (σ.2.2.2.2.2.2.2.2.2 a) x i)] : List Value) from by rw [nI_clamp (by omega)]) ?_
            refine g_eqst (show ([.int (S (3 + (2 - i))), .int (scF σ.1 σ.2.2.2.1 σ.2.2.2.2.2.2.1 (σ.2.2.2.2.2.2.2.2.2 a) x i)] : List Value) = ([.int (wgt σ.2.2.2.2.2.2.1 i), .int (scF σ.1 σ.2.2.2.1 σ.2.2.2.2.2.2.1 (σ.2.2.2.2.2.2.2.2.2 a) x i)] : List Value) from by rw [hS.2.2.2.1 (2 - i) (by omega)]; unfold wgt; rw [if_pos (by omega)]) ?_
            refine g_goto C 66 (by decide) dX7_scoreAt_62 ?_
            refine g_iadd C dX7_scoreAt_66 ?_
            refine g_istore_n C [(3, .int ((scF σ.1 σ.2.2.2.1 σ.2.2.2.2.2.2.1 (σ.2.2.2.2.2.2.2.2.2 a) x i) + (wgt σ.2.2.2.2.2.2.1 i))), (5, .int (nI (2 - i))), (0, .ref (adr 0)), (1, .int (nI a)), (2, .int x), (4, .int (nI i))] (by decide) rfl dX7_scoreAt_67 ?_
            refine g_iinc C 5 [(4, .int (nI (i + 1))), (3, .int ((scF σ.1 σ.2.2.2.1 σ.2.2.2.2.2.2.1 (σ.2.2.2.2.2.2.2.2.2 a) x i) + (wgt σ.2.2.2.2.2.2.1 i))), (5, .int (nI (2 - i))), (0, .ref (adr 0)), (1, .int (nI a)), (2, .int x)] rfl (iinc_nI i) (by decide) rfl dX7_scoreAt_68 ?_
            refine g_goto C 5 (by decide) dX7_scoreAt_71 ?_
            refine g_sub [3, 4, 5, 1, 0] rfl ?_
            have ev_14 : (scF σ.1 σ.2.2.2.1 σ.2.2.2.2.2.2.1 (σ.2.2.2.2.2.2.2.2.2 a) x i) + (wgt σ.2.2.2.2.2.2.1 i) = scF σ.1 σ.2.2.2.1 σ.2.2.2.2.2.2.1 (σ.2.2.2.2.2.2.2.2.2 a) x (i + 1) := by first | exact scF_yes c50.symm | exact (Int32.add_zero _).trans (scF_no (fun h => c50 h.symm))
            refine g_eqlv (lv1 := [(0, .ref (adr 0)), (1, .int (nI a)), (2, .int x), (3, .int (scF σ.1 σ.2.2.2.1 σ.2.2.2.2.2.2.1 (σ.2.2.2.2.2.2.2.2.2 a) x (i + 1))), (4, .int (nI (i + 1)))]) (congrArg (fun z0 : Int32 => ([(0, .ref (adr 0)), (1, .int (nI a)), (2, .int x), (3, .int z0), (4, .int (nI (i + 1)))] : List (Nat × Value))) ev_14) ?_
            exact ih (i + 1) (by omega) (by omega) 
  refine g_sub [2, 3, 4, 1, 0] rfl ?_
  have ev_15 : 0 = scF σ.1 σ.2.2.2.1 σ.2.2.2.2.2.2.1 (σ.2.2.2.2.2.2.2.2.2 a) x 0 := by rfl
  refine g_eqlv (lv1 := [(0, .ref (adr 0)), (1, .int (nI a)), (2, .int x), (3, .int (scF σ.1 σ.2.2.2.1 σ.2.2.2.2.2.2.1 (σ.2.2.2.2.2.2.2.2.2 a) x 0)), (4, .int 0)]) (congrArg (fun z0 : Int32 => ([(0, .ref (adr 0)), (1, .int (nI a)), (2, .int x), (3, .int z0), (4, .int 0)] : List (Nat × Value))) ev_15) ?_
  exact L5 (5 + 1) 0 (by omega) (by omega) 
