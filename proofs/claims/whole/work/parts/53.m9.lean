set_option maxRecDepth 100000 in
set_option maxHeartbeats 4000000 in
theorem c_X7_likeness (l : Launch) (D : va_G) (kc : Nat → ClassId) (N : Nat) (adr : Nat → Nat) (cell : Nat → va_E) (S Wa Bg As tx : Nat → Int32) (st ty at' re : Int32) (nu mo sh : Nat → Int32) (σ : SD) (o p : Nat) (hB : MB cell adr kc S Wa Bg As st tx ty at' re nu mo sh) (hN : 9 ≤ N) (hS : MS S σ) (hG : Good σ) : MI l yX7_likeness wsX7_likeness ({ frames := 3, cells := 0, slots := 0, locals := 64 }) D kc N adr cell [.ref (adr 0), .int (nI o), .int (nI p)] (fun (v : Int32) (cell1 : Nat → va_E) => scr σ.1 σ.2.2.2.1 σ.2.2.2.2.2.2.1 (lookF σ.1 σ.2.2.2.1 (nI o)) (nI p) = v ∧ cell = cell1) := by
  refine met_i (cc := cX7_likeness) (maxL := 5) (ret := (some .int)) (by decide) rfl (Nat.le_of_ble_eq_true rfl) (lv := [(0, .ref (adr 0)), (1, .int (nI o)), (2, .int (nI p))]) rfl ?_
  intro Pg Ev Sv Mi args below Me Cd Ar C hr hlk hnm
  have in7 : ∀ w ∈ u_ws RX7 TX7 12, w ∈ wsX7_likeness := by decide +kernel
  have f7 := C.2.2.2.2.1 (.fieldLink RX7 7 "WordAnchorsModel" "s" "[I") (by decide +kernel)
  have hB0 := hB
  obtain ⟨m0, m1, m2, m3, m4, m5, m6, m7, m8⟩ := hB
  have hg1 := hG.1
  have hg2 := hG.2.1
  have e0 := hS.1
  have e1 := hS.2.1
  have litm2 : ((-2) : Int32).toInt = -2 := rfl
  have litm1 : ((-1) : Int32).toInt = -1 := rfl
  have lit0 : (0 : Int32).toInt = 0 := rfl
  have lit1 : (1 : Int32).toInt = 1 := rfl
  have lit2 : (2 : Int32).toInt = 2 := rfl
  have lit3 : (3 : Int32).toInt = 3 := rfl
  have tn___1 : (nI σ.1).toInt = ((σ.1 : Nat) : Int) := nI_toInt (by omega)
  refine g_iconst C 0 (by decide) dX7_likeness_0 ?_
  refine g_istore_n C [(3, .int 0), (0, .ref (adr 0)), (1, .int (nI o)), (2, .int (nI p))] (by decide) rfl dX7_likeness_1 ?_
  refine g_bipush C (-2) (by decide) dX7_likeness_2 ?_
  refine g_istore C [(4, .int (-2)), (3, .int 0), (0, .ref (adr 0)), (1, .int (nI o)), (2, .int (nI p))] (by decide) rfl dX7_likeness_4 ?_
  have L6 : ∀ (fu j : Nat) , j ≤ 5 → 5 < j + fu → G Pg l Ev (headSpec wsX7_likeness { frames := 3, cells := 0, slots := 0, locals := 64 }).room Sv Mi args below Me Cd D N adr Ar Sv.heap 5 0 0 (MQ below (va_Qi (fun (v : Int32) (cell1 : Nat → va_E) => scr σ.1 σ.2.2.2.1 σ.2.2.2.2.2.2.1 (lookF σ.1 σ.2.2.2.1 (nI o)) (nI p) = v ∧ cell = cell1) (fun (cell1 : Nat → va_E) (t : State) => va_P D vwCl (wld N adr cell1) t.heap) Ar) args Sv 0 0 Ar) cell 6 [(0, .ref (adr 0)), (1, .int (nI o)), (2, .int (nI p)), (3, .int (scF σ.1 σ.2.2.2.1 σ.2.2.2.2.2.2.1 (lookF σ.1 σ.2.2.2.1 (nI o)) (nI p) j)), (4, .int (nI j - 2))] ([] : List Value) := by
    intro fu
    induction fu with
    | zero => intro j  hle hfu; exact absurd hfu (by omega)
    | succ fu ih =>
      intro j  hle6 hfu6  
      have tj2 : (nI j - 2).toInt = ((j : Nat) : Int) - 2 := pk_sub_toInt (a := j) (b := 2) (by omega) (by omega)
      refine g_iload C 4 rfl dX7_likeness_6 ?_
      refine g_iconst C 2 (by decide) dX7_likeness_8 ?_
      refine g_icmp_gt C 64 (by decide) dX7_likeness_9 (fun c9 => ?_) (fun c9 => ?_)
      · -- taken at 9
        have c9' := i_lt c9
        obtain rfl : 5 = j := by omega
        refine g_iload_n C 3 rfl dX7_likeness_64 ?_
        refine g_iret C hr rfl hlk dX7_likeness_65 ?_
        exact ⟨rfl, rfl⟩
      · -- not taken at 9
        have c9' := i_nlt c9
        refine g_iload_n C 3 rfl dX7_likeness_12 ?_
        refine g_aload_n C 0 rfl dX7_likeness_13 ?_
        refine g_iload_n C 1 rfl dX7_likeness_14 ?_
        refine g_iload C 4 rfl dX7_likeness_15 ?_
        refine g_iadd C dX7_likeness_17 ?_
        refine g_Vi C [.int ((nI o) + (nI j - 2))] 0 7 (by omega) m0 rfl (c_X7_word l D kc N adr cell S Wa Bg As tx st ty at' re nu mo sh σ ((nI o) + (nI j - 2)) ⟨m0, m1, m2, m3, m4, m5, m6, m7, m8⟩ (by omega) hS hG.1 hG.2.1) (cwV 1 C.2.2.2.2.1 gX7_likeness_X7_word rfl rfl rfl (by decide +kernel) ⟨Nat.le_of_ble_eq_true rfl, Nat.le_of_ble_eq_true rfl⟩) rfl rfl (Nat.le_of_ble_eq_true rfl) (Nat.zero_le _) (Nat.zero_le _) dX7_likeness_18 (fun v1 cell1 q1 => ?_)
        obtain ⟨rfl, rfl⟩ := q1
        refine g_aload_n C 0 rfl dX7_likeness_21 ?_
        refine g_iload_n C 2 rfl dX7_likeness_22 ?_
        refine g_iload C 4 rfl dX7_likeness_23 ?_
        refine g_iadd C dX7_likeness_25 ?_
        refine g_Vi C [.int ((nI p) + (nI j - 2))] 0 7 (by omega) m0 rfl (c_X7_word l D kc N adr cell S Wa Bg As tx st ty at' re nu mo sh σ ((nI p) + (nI j - 2)) ⟨m0, m1, m2, m3, m4, m5, m6, m7, m8⟩ (by omega) hS hG.1 hG.2.1) (cwV 1 C.2.2.2.2.1 gX7_likeness_X7_word rfl rfl rfl (by decide +kernel) ⟨Nat.le_of_ble_eq_true rfl, Nat.le_of_ble_eq_true rfl⟩) rfl rfl (Nat.le_of_ble_eq_true rfl) (Nat.zero_le _) (Nat.zero_le _) dX7_likeness_26 (fun v2 cell2 q2 => ?_)
        obtain ⟨rfl, rfl⟩ := q2
        refine g_icmp_ne C 55 (by decide) dX7_likeness_29 (fun c29 => ?_) (fun c29 => ?_)
        · -- taken at 29
          have c29' := i_ne c29
          refine g_iconst C 0 (by decide) dX7_likeness_55 ?_
          refine g_iadd C dX7_likeness_56 ?_
          refine g_istore_n C [(3, .int ((scF σ.1 σ.2.2.2.1 σ.2.2.2.2.2.2.1 (lookF σ.1 σ.2.2.2.1 (nI o)) (nI p) j) + 0)), (0, .ref (adr 0)), (1, .int (nI o)), (2, .int (nI p)), (4, .int (nI j - 2))] (by decide) rfl dX7_likeness_57 ?_
          refine g_iinc C 4 [(4, .int ((nI j - 2) + 1)), (3, .int ((scF σ.1 σ.2.2.2.1 σ.2.2.2.2.2.2.1 (lookF σ.1 σ.2.2.2.1 (nI o)) (nI p) j) + 0)), (0, .ref (adr 0)), (1, .int (nI o)), (2, .int (nI p))] rfl rfl (by decide) rfl dX7_likeness_58 ?_
          refine g_goto C 6 (by decide) dX7_likeness_61 ?_
          have hA : (lookF σ.1 σ.2.2.2.1 (nI o)) j = atF σ.1 σ.2.2.2.1 (nI o + (nI j - 2)) := congrArg (atF σ.1 σ.2.2.2.1) (addsub _ _ _).symm
          have hB : atF σ.1 σ.2.2.2.1 (nI p + nI j - 2) = atF σ.1 σ.2.2.2.1 (nI p + (nI j - 2)) := congrArg (atF σ.1 σ.2.2.2.1) (addsub _ _ _).symm
          have hb : scF σ.1 σ.2.2.2.1 σ.2.2.2.2.2.2.1 (lookF σ.1 σ.2.2.2.1 (nI o)) (nI p) j + 0 = scF σ.1 σ.2.2.2.1 σ.2.2.2.2.2.2.1 (lookF σ.1 σ.2.2.2.1 (nI o)) (nI p) (j + 1) := (Int32.add_zero _).trans (scF_no (fun h => c29 (hA.symm.trans (h.trans hB))))
          refine g_sub [2, 3, 4, 1, 0] rfl ?_
          have ev_3 : (scF σ.1 σ.2.2.2.1 σ.2.2.2.2.2.2.1 (lookF σ.1 σ.2.2.2.1 (nI o)) (nI p) j) + 0 = scF σ.1 σ.2.2.2.1 σ.2.2.2.2.2.2.1 (lookF σ.1 σ.2.2.2.1 (nI o)) (nI p) (j + 1) := by exact hb
          refine g_eqlv (lv1 := [(0, .ref (adr 0)), (1, .int (nI o)), (2, .int (nI p)), (3, .int (scF σ.1 σ.2.2.2.1 σ.2.2.2.2.2.2.1 (lookF σ.1 σ.2.2.2.1 (nI o)) (nI p) (j + 1))), (4, .int ((nI j - 2) + 1))]) (congrArg (fun z0 : Int32 => ([(0, .ref (adr 0)), (1, .int (nI o)), (2, .int (nI p)), (3, .int z0), (4, .int ((nI j - 2) + 1))] : List (Nat × Value))) ev_3) ?_
          have ev_4 : (nI j - 2) + 1 = nI (j + 1) - 2 := by exact lk_inc j
          refine g_eqlv (lv1 := [(0, .ref (adr 0)), (1, .int (nI o)), (2, .int (nI p)), (3, .int (scF σ.1 σ.2.2.2.1 σ.2.2.2.2.2.2.1 (lookF σ.1 σ.2.2.2.1 (nI o)) (nI p) (j + 1))), (4, .int (nI (j + 1) - 2))]) (congrArg (fun z0 : Int32 => ([(0, .ref (adr 0)), (1, .int (nI o)), (2, .int (nI p)), (3, .int (scF σ.1 σ.2.2.2.1 σ.2.2.2.2.2.2.1 (lookF σ.1 σ.2.2.2.1 (nI o)) (nI p) (j + 1))), (4, .int z0)] : List (Nat × Value))) ev_4) ?_
          exact ih (j + 1) (by omega) (by omega) 
        · -- not taken at 29
          have c29' := i_eq c29
          refine g_aload_n C 0 rfl dX7_likeness_32 ?_
          refine g_get C 0 7 0 (by omega) m0 rfl in7 (by decide) f7 (fun _ h9 => h9) rfl dX7_likeness_33 ?_
          refine g_iconst C 3 (by decide) dX7_likeness_36 ?_
          refine g_iload C 4 rfl dX7_likeness_37 ?_
          refine g_if_ge C 48 (by decide) dX7_likeness_39 (fun c39 => ?_) (fun c39 => ?_)
          · -- taken at 39
            have c39' := i_le c39
            refine g_iload C 4 rfl dX7_likeness_48 ?_
            refine g_iadd C dX7_likeness_50 ?_
            refine g_eqst (show ([.int (3 + (nI j - 2)), .ref (adr 1), .int (scF σ.1 σ.2.2.2.1 σ.2.2.2.2.2.2.1 (lookF σ.1 σ.2.2.2.1 (nI o)) (nI p) j)] : List Value) = ([.int (nI (1 + j)), .ref (adr 1), .int (scF σ.1 σ.2.2.2.1 σ.2.2.2.2.2.2.1 (lookF σ.1 σ.2.2.2.1 (nI o)) (nI p) j)] : List Value) from by rw [lk_a (by omega)]) ?_
            refine g_iald C 1 (by omega) m1 (vp_in_nI (by omega) (by omega)) dX7_likeness_51 ?_
            refine g_eqst (show ([.int (S (nI (1 + j)).toNatClampNeg), .int (scF σ.1 σ.2.2.2.1 σ.2.2.2.2.2.2.1 (lookF σ.1 σ.2.2.2.1 (nI o)) (nI p) j)] : List Value) = ([.int (S (1 + j)), .int (scF σ.1 σ.2.2.2.1 σ.2.2.2.2.2.2.1 (lookF σ.1 σ.2.2.2.1 (nI o)) (nI p) j)] : List Value) from by rw [nI_clamp (by omega)]) ?_
            refine g_eqst (show ([.int (S (1 + j)), .int (scF σ.1 σ.2.2.2.1 σ.2.2.2.2.2.2.1 (lookF σ.1 σ.2.2.2.1 (nI o)) (nI p) j)] : List Value) = ([.int (wgt σ.2.2.2.2.2.2.1 j), .int (scF σ.1 σ.2.2.2.1 σ.2.2.2.2.2.2.1 (lookF σ.1 σ.2.2.2.1 (nI o)) (nI p) j)] : List Value) from by rw [wg_a hS.2.2.2.1 (by omega)]) ?_
            refine g_goto C 56 (by decide) dX7_likeness_52 ?_
            refine g_iadd C dX7_likeness_56 ?_
            refine g_istore_n C [(3, .int ((scF σ.1 σ.2.2.2.1 σ.2.2.2.2.2.2.1 (lookF σ.1 σ.2.2.2.1 (nI o)) (nI p) j) + (wgt σ.2.2.2.2.2.2.1 j))), (0, .ref (adr 0)), (1, .int (nI o)), (2, .int (nI p)), (4, .int (nI j - 2))] (by decide) rfl dX7_likeness_57 ?_
            refine g_iinc C 4 [(4, .int ((nI j - 2) + 1)), (3, .int ((scF σ.1 σ.2.2.2.1 σ.2.2.2.2.2.2.1 (lookF σ.1 σ.2.2.2.1 (nI o)) (nI p) j) + (wgt σ.2.2.2.2.2.2.1 j))), (0, .ref (adr 0)), (1, .int (nI o)), (2, .int (nI p))] rfl rfl (by decide) rfl dX7_likeness_58 ?_
            refine g_goto C 6 (by decide) dX7_likeness_61 ?_
            have hA : (lookF σ.1 σ.2.2.2.1 (nI o)) j = atF σ.1 σ.2.2.2.1 (nI o + (nI j - 2)) := congrArg (atF σ.1 σ.2.2.2.1) (addsub _ _ _).symm
            have hB : atF σ.1 σ.2.2.2.1 (nI p + nI j - 2) = atF σ.1 σ.2.2.2.1 (nI p + (nI j - 2)) := congrArg (atF σ.1 σ.2.2.2.1) (addsub _ _ _).symm
            have hb : scF σ.1 σ.2.2.2.1 σ.2.2.2.2.2.2.1 (lookF σ.1 σ.2.2.2.1 (nI o)) (nI p) j + wgt σ.2.2.2.2.2.2.1 j = scF σ.1 σ.2.2.2.1 σ.2.2.2.2.2.2.1 (lookF σ.1 σ.2.2.2.1 (nI o)) (nI p) (j + 1) := scF_yes (hA.trans (c29.trans hB.symm))
            refine g_sub [2, 3, 4, 1, 0] rfl ?_
            have ev_7 : (scF σ.1 σ.2.2.2.1 σ.2.2.2.2.2.2.1 (lookF σ.1 σ.2.2.2.1 (nI o)) (nI p) j) + (wgt σ.2.2.2.2.2.2.1 j) = scF σ.1 σ.2.2.2.1 σ.2.2.2.2.2.2.1 (lookF σ.1 σ.2.2.2.1 (nI o)) (nI p) (j + 1) := by exact hb
            refine g_eqlv (lv1 := [(0, .ref (adr 0)), (1, .int (nI o)), (2, .int (nI p)), (3, .int (scF σ.1 σ.2.2.2.1 σ.2.2.2.2.2.2.1 (lookF σ.1 σ.2.2.2.1 (nI o)) (nI p) (j + 1))), (4, .int ((nI j - 2) + 1))]) (congrArg (fun z0 : Int32 => ([(0, .ref (adr 0)), (1, .int (nI o)), (2, .int (nI p)), (3, .int z0), (4, .int ((nI j - 2) + 1))] : List (Nat × Value))) ev_7) ?_
            have ev_8 : (nI j - 2) + 1 = nI (j + 1) - 2 := by exact lk_inc j
            refine g_eqlv (lv1 := [(0, .ref (adr 0)), (1, .int (nI o)), (2, .int (nI p)), (3, .int (scF σ.1 σ.2.2.2.1 σ.2.2.2.2.2.2.1 (lookF σ.1 σ.2.2.2.1 (nI o)) (nI p) (j + 1))), (4, .int (nI (j + 1) - 2))]) (congrArg (fun z0 : Int32 => ([(0, .ref (adr 0)), (1, .int (nI o)), (2, .int (nI p)), (3, .int (scF σ.1 σ.2.2.2.1 σ.2.2.2.2.2.2.1 (lookF σ.1 σ.2.2.2.1 (nI o)) (nI p) (j + 1))), (4, .int z0)] : List (Nat × Value))) ev_8) ?_
            exact ih (j + 1) (by omega) (by omega) 
          · -- not taken at 39
            have c39' := i_nle c39
            refine g_iload C 4 rfl dX7_likeness_42 ?_
            refine g_ineg C dX7_likeness_44 ?_
            refine g_goto C 50 (by decide) dX7_likeness_45 ?_
            refine g_iadd C dX7_likeness_50 ?_
            refine g_eqst (show ([.int (3 + (-(nI j - 2))), .ref (adr 1), .int (scF σ.1 σ.2.2.2.1 σ.2.2.2.2.2.2.1 (lookF σ.1 σ.2.2.2.1 (nI o)) (nI p) j)] : List Value) = ([.int (nI (5 - j)), .ref (adr 1), .int (scF σ.1 σ.2.2.2.1 σ.2.2.2.2.2.2.1 (lookF σ.1 σ.2.2.2.1 (nI o)) (nI p) j)] : List Value) from by rw [lk_b (by omega)]) ?_
            refine g_iald C 1 (by omega) m1 (vp_in_nI (by omega) (by omega)) dX7_likeness_51 ?_
            refine g_eqst (show ([.int (S (nI (5 - j)).toNatClampNeg), .int (scF σ.1 σ.2.2.2.1 σ.2.2.2.2.2.2.1 (lookF σ.1 σ.2.2.2.1 (nI o)) (nI p) j)] : List Value) = ([.int (S (5 - j)), .int (scF σ.1 σ.2.2.2.1 σ.2.2.2.2.2.2.1 (lookF σ.1 σ.2.2.2.1 (nI o)) (nI p) j)] : List Value) from by rw [nI_clamp (by omega)]) ?_
            refine g_eqst (show ([.int (S (5 - j)), .int (scF σ.1 σ.2.2.2.1 σ.2.2.2.2.2.2.1 (lookF σ.1 σ.2.2.2.1 (nI o)) (nI p) j)] : List Value) = ([.int (wgt σ.2.2.2.2.2.2.1 j), .int (scF σ.1 σ.2.2.2.1 σ.2.2.2.2.2.2.1 (lookF σ.1 σ.2.2.2.1 (nI o)) (nI p) j)] : List Value) from by rw [wg_b hS.2.2.2.1 (by omega)]) ?_
            refine g_goto C 56 (by decide) dX7_likeness_52 ?_
            refine g_iadd C dX7_likeness_56 ?_
            refine g_istore_n C [(3, .int ((scF σ.1 σ.2.2.2.1 σ.2.2.2.2.2.2.1 (lookF σ.1 σ.2.2.2.1 (nI o)) (nI p) j) + (wgt σ.2.2.2.2.2.2.1 j))), (0, .ref (adr 0)), (1, .int (nI o)), (2, .int (nI p)), (4, .int (nI j - 2))] (by decide) rfl dX7_likeness_57 ?_
            refine g_iinc C 4 [(4, .int ((nI j - 2) + 1)), (3, .int ((scF σ.1 σ.2.2.2.1 σ.2.2.2.2.2.2.1 (lookF σ.1 σ.2.2.2.1 (nI o)) (nI p) j) + (wgt σ.2.2.2.2.2.2.1 j))), (0, .ref (adr 0)), (1, .int (nI o)), (2, .int (nI p))] rfl rfl (by decide) rfl dX7_likeness_58 ?_
            refine g_goto C 6 (by decide) dX7_likeness_61 ?_
            have hA : (lookF σ.1 σ.2.2.2.1 (nI o)) j = atF σ.1 σ.2.2.2.1 (nI o + (nI j - 2)) := congrArg (atF σ.1 σ.2.2.2.1) (addsub _ _ _).symm
            have hB : atF σ.1 σ.2.2.2.1 (nI p + nI j - 2) = atF σ.1 σ.2.2.2.1 (nI p + (nI j - 2)) := congrArg (atF σ.1 σ.2.2.2.1) (addsub _ _ _).symm
            have hb : scF σ.1 σ.2.2.2.1 σ.2.2.2.2.2.2.1 (lookF σ.1 σ.2.2.2.1 (nI o)) (nI p) j + wgt σ.2.2.2.2.2.2.1 j = scF σ.1 σ.2.2.2.1 σ.2.2.2.2.2.2.1 (lookF σ.1 σ.2.2.2.1 (nI o)) (nI p) (j + 1) := scF_yes (hA.trans (c29.trans hB.symm))
            refine g_sub [2, 3, 4, 1, 0] rfl ?_
            have ev_11 : (scF σ.1 σ.2.2.2.1 σ.2.2.2.2.2.2.1 (lookF σ.1 σ.2.2.2.1 (nI o)) (nI p) j) + (wgt σ.2.2.2.2.2.2.1 j) = scF σ.1 σ.2.2.2.1 σ.2.2.2.2.2.2.1 (lookF σ.1 σ.2.2.2.1 (nI o)) (nI p) (j + 1) := by exact hb
            refine g_eqlv (lv1 := [(0, .ref (adr 0)), (1, .int (nI o)), (2, .int (nI p)), (3, .int (scF σ.1 σ.2.2.2.1 σ.2.2.2.2.2.2.1 (lookF σ.1 σ.2.2.2.1 (nI o)) (nI p) (j + 1))), (4, .int ((nI j - 2) + 1))]) (congrArg (fun z0 : Int32 => ([(0, .ref (adr 0)), (1, .int (nI o)), (2, .int (nI p)), (3, .int z0), (4, .int ((nI j - 2) + 1))] : List (Nat × Value))) ev_11) ?_
            have ev_12 : (nI j - 2) + 1 = nI (j + 1) - 2 := by exact lk_inc j
            refine g_eqlv (lv1 := [(0, .ref (adr 0)), (1, .int (nI o)), (2, .int (nI p)), (3, .int (scF σ.1 σ.2.2.2.1 σ.2.2.2.2.2.2.1 (lookF σ.1 σ.2.2.2.1 (nI o)) (nI p) (j + 1))), (4, .int (nI (j + 1) - 2))]) (congrArg (fun z0 : Int32 => ([(0, .ref (adr 0)), (1, .int (nI o)), (2, .int (nI p)), (3, .int (scF σ.1 σ.2.2.2.1 σ.2.2.2.2.2.2.1 (lookF σ.1 σ.2.2.2.1 (nI o)) (nI p) (j + 1))), (4, .int z0)] : List (Nat × Value))) ev_12) ?_
            exact ih (j + 1) (by omega) (by omega) 
  refine g_sub [2, 3, 4, 1, 0] rfl ?_
  have ev_13 : 0 = scF σ.1 σ.2.2.2.1 σ.2.2.2.2.2.2.1 (lookF σ.1 σ.2.2.2.1 (nI o)) (nI p) 0 := by rfl
  refine g_eqlv (lv1 := [(0, .ref (adr 0)), (1, .int (nI o)), (2, .int (nI p)), (3, .int (scF σ.1 σ.2.2.2.1 σ.2.2.2.2.2.2.1 (lookF σ.1 σ.2.2.2.1 (nI o)) (nI p) 0)), (4, .int (-2))]) (congrArg (fun z0 : Int32 => ([(0, .ref (adr 0)), (1, .int (nI o)), (2, .int (nI p)), (3, .int z0), (4, .int (-2))] : List (Nat × Value))) ev_13) ?_
  have ev_14 : (-2) = nI 0 - 2 := by decide
  refine g_eqlv (lv1 := [(0, .ref (adr 0)), (1, .int (nI o)), (2, .int (nI p)), (3, .int (scF σ.1 σ.2.2.2.1 σ.2.2.2.2.2.2.1 (lookF σ.1 σ.2.2.2.1 (nI o)) (nI p) 0)), (4, .int (nI 0 - 2))]) (congrArg (fun z0 : Int32 => ([(0, .ref (adr 0)), (1, .int (nI o)), (2, .int (nI p)), (3, .int (scF σ.1 σ.2.2.2.1 σ.2.2.2.2.2.2.1 (lookF σ.1 σ.2.2.2.1 (nI o)) (nI p) 0)), (4, .int z0)] : List (Nat × Value))) ev_14) ?_
  exact L6 (5 + 1) 0 (by omega) (by omega) 
set_option maxRecDepth 100000 in
set_option maxHeartbeats 4000000 in
theorem c_X7_clearest (l : Launch) (D : va_G) (kc : Nat → ClassId) (N : Nat) (adr : Nat → Nat) (cell : Nat → va_E) (σ : SD) (hn : Nat) (hi : Nat → SD) (L : Nat) (ch : Nat → Int32) (x : Int32) (hM : MAt cell adr kc σ hn hi L ch) (hG : Good σ) (hN : 9 ≤ N) : MI l yX7_clearest wsX7_clearest ({ frames := 4, cells := 0, slots := 0, locals := 88 }) D kc N adr cell [.ref (adr 0), .int x] (fun (v : Int32) (cell1 : Nat → va_E) => clearestR σ x = v ∧ cell = cell1) := by
  refine met_i (cc := cX7_clearest) (maxL := 8) (ret := (some .int)) (by decide) rfl (Nat.le_of_ble_eq_true rfl) (lv := [(0, .ref (adr 0)), (1, .int x)]) rfl ?_
  intro Pg Ev Sv Mi args below Me Cd Ar C hr hlk hnm
  have in7 : ∀ w ∈ u_ws RX7 TX7 12, w ∈ wsX7_clearest := by decide +kernel
  have k100 := C.2.2.2.2.1 (.constant RX7 100 (-1000004)) (by decide +kernel)
  have f7 := C.2.2.2.2.1 (.fieldLink RX7 7 "WordAnchorsModel" "s" "[I") (by decide +kernel)
  have k43 := C.2.2.2.2.1 (.constant RX7 43 (-1000001)) (by decide +kernel)
  have hM0 := hM
  obtain ⟨S, Wa, Bg, As, tx, at', re, nu, mo, sh, hB, hS, hH, htx, hh4, hL60⟩ := hM
  have hB0 := hB
  obtain ⟨m0, m1, m2, m3, m4, m5, m6, m7, m8⟩ := hB
  have hg1 := hG.1
  have hg2 := hG.2.1
  have e0 := hS.1
  have e1 := hS.2.1
  have litm1000004 : ((-1000004) : Int32).toInt = -1000004 := rfl
  have litm1000001 : ((-1000001) : Int32).toInt = -1000001 := rfl
  have litm1 : ((-1) : Int32).toInt = -1 := rfl
  have lit0 : (0 : Int32).toInt = 0 := rfl
  have lit1 : (1 : Int32).toInt = 1 := rfl
  have tn___1 : (nI σ.1).toInt = ((σ.1 : Nat) : Int) := nI_toInt (by omega)
  have tn___2_1 : (nI σ.2.1).toInt = ((σ.2.1 : Nat) : Int) := nI_toInt (by omega)
  have tn_hn : (nI hn).toInt = ((hn : Nat) : Int) := nI_toInt (by omega)
  have tn_L : (nI L).toInt = ((L : Nat) : Int) := nI_toInt (by omega)
  refine g_iload_n C 1 rfl dX7_clearest_0 ?_
  refine g_iconst C 0 (by decide) dX7_clearest_1 ?_
  refine g_iconst C 1 (by decide) dX7_clearest_2 ?_
  refine g_Si C [.int x, .int 0, .int 1] (c_X7_in l D kc N adr cell x 0 1) (va_cwS 3 C.2.2.2.2.1 gX7_clearest_X7_in rfl rfl rfl (by decide +kernel) ⟨Nat.le_of_ble_eq_true rfl, Nat.le_of_ble_eq_true rfl⟩) rfl rfl (Nat.le_of_ble_eq_true rfl) (Nat.zero_le _) (Nat.zero_le _) dX7_clearest_3 (fun v1 cell1 q1 => ?_)
  obtain ⟨rfl, rfl⟩ := q1
  refine g_if_ne C 12 (by decide) dX7_clearest_6 (fun c6 => ?_) (fun c6 => ?_)
  · -- taken at 6
    have c6' := bI_t c6
    refine g_ldc C (-1000004) k100 dX7_clearest_12 ?_
    refine g_istore_n C [(2, .int (-1000004)), (0, .ref (adr 0)), (1, .int x)] (by decide) rfl dX7_clearest_14 ?_
    refine g_iconst C (-1) (by decide) dX7_clearest_15 ?_
    refine g_istore_n C [(3, .int (-1)), (2, .int (-1000004)), (0, .ref (adr 0)), (1, .int x)] (by decide) rfl dX7_clearest_16 ?_
    refine g_iconst C 0 (by decide) dX7_clearest_17 ?_
    refine g_istore C [(4, .int 0), (3, .int (-1)), (2, .int (-1000004)), (0, .ref (adr 0)), (1, .int x)] (by decide) rfl dX7_clearest_18 ?_
    have L20 : ∀ (fu o : Nat) , o ≤ σ.1 → σ.1 < o + fu → G Pg l Ev (headSpec wsX7_clearest { frames := 4, cells := 0, slots := 0, locals := 88 }).room Sv Mi args below Me Cd D N adr Ar Sv.heap 8 0 0 (MQ below (va_Qi (fun (v : Int32) (cell1 : Nat → va_E) => clearestR σ x = v ∧ cell = cell1) (fun (cell1 : Nat → va_E) (t : State) => va_P D vwCl (wld N adr cell1) t.heap) Ar) args Sv 0 0 Ar) cell 20 [(0, .ref (adr 0)), (1, .int x), (2, .int (clP σ o)), (3, .int (clB σ o)), (4, .int (nI o))] ([] : List Value) := by
      intro fu
      induction fu with
      | zero => intro o  hle hfu; exact absurd hfu (by omega)
      | succ fu ih =>
        intro o  hle20 hfu20  
        have tn_o : (nI o).toInt = ((o : Nat) : Int) := nI_toInt (by omega)
        refine g_iload C 4 rfl dX7_clearest_20 ?_
        refine g_aload_n C 0 rfl dX7_clearest_22 ?_
        refine g_get C 0 7 0 (by omega) m0 rfl in7 (by decide) f7 (fun _ h9 => h9) rfl dX7_clearest_23 ?_
        refine g_iconst C 0 (by decide) dX7_clearest_26 ?_
        refine g_iald C 1 (by omega) m1 (vp_in_iff.mpr (by omega)) dX7_clearest_27 ?_
        refine g_eqst (st1 := ([.int (S 0), .int (nI o)] : List Value)) rfl ?_
        refine g_eqst (show ([.int (S 0), .int (nI o)] : List Value) = ([.int (nI σ.1), .int (nI o)] : List Value) from by rw [e0]) ?_
        refine g_icmp_ge C 136 (by decide) dX7_clearest_28 (fun c28 => ?_) (fun c28 => ?_)
        · -- taken at 28
          have c28' := i_le c28
          obtain rfl : σ.1 = o := by omega
          refine g_iload_n C 1 rfl dX7_clearest_136 ?_
          refine g_if_eq C 144 (by decide) dX7_clearest_137 (fun c137 => ?_) (fun c137 => ?_)
          · -- taken at 137
            have c137' := i_eq c137
            refine g_iload_n C 2 rfl dX7_clearest_144 ?_
            refine g_goto C 149 (by decide) dX7_clearest_145 ?_
            refine g_iret C hr rfl hlk dX7_clearest_149 ?_
            exact ⟨clR_0 (by omega) c137, rfl⟩
          · -- not taken at 137
            have c137' := i_ne c137
            refine g_iload_n C 2 rfl dX7_clearest_140 ?_
            refine g_if_ge C 148 (by decide) dX7_clearest_141 (fun c141 => ?_) (fun c141 => ?_)
            · -- taken at 141
              have c141' := i_le c141
              refine g_iload_n C 3 rfl dX7_clearest_148 ?_
              refine g_iret C hr rfl hlk dX7_clearest_149 ?_
              exact ⟨clR_1 (by omega) c137 c141, rfl⟩
            · -- not taken at 141
              have c141' := i_nle c141
              refine g_iload_n C 2 rfl dX7_clearest_144 ?_
              refine g_goto C 149 (by decide) dX7_clearest_145 ?_
              refine g_iret C hr rfl hlk dX7_clearest_149 ?_
              exact ⟨clR_2 hg1 (by omega) c141, rfl⟩
        · -- not taken at 28
          have c28' := i_nle c28
          refine g_iconst C 0 (by decide) dX7_clearest_31 ?_
          refine g_istore C [(5, .int 0), (0, .ref (adr 0)), (1, .int x), (2, .int (clP σ o)), (3, .int (clB σ o)), (4, .int (nI o))] (by decide) rfl dX7_clearest_32 ?_
          refine g_iconst C 0 (by decide) dX7_clearest_34 ?_
          refine g_istore C [(6, .int 0), (5, .int 0), (0, .ref (adr 0)), (1, .int x), (2, .int (clP σ o)), (3, .int (clB σ o)), (4, .int (nI o))] (by decide) rfl dX7_clearest_35 ?_
          have L37 : ∀ (fu p : Nat) , p ≤ σ.1 → σ.1 < p + fu → G Pg l Ev (headSpec wsX7_clearest { frames := 4, cells := 0, slots := 0, locals := 88 }).room Sv Mi args below Me Cd D N adr Ar Sv.heap 8 0 0 (MQ below (va_Qi (fun (v : Int32) (cell1 : Nat → va_E) => clearestR σ x = v ∧ cell = cell1) (fun (cell1 : Nat → va_E) (t : State) => va_P D vwCl (wld N adr cell1) t.heap) Ar) args Sv 0 0 Ar) cell 37 [(0, .ref (adr 0)), (1, .int x), (2, .int (clP σ o)), (3, .int (clB σ o)), (4, .int (nI o)), (5, .int (msF σ.1 σ.2.2.2.1 σ.2.2.2.2.2.2.1 o p)), (6, .int (nI p))] ([] : List Value) := by
            intro fu
            induction fu with
            | zero => intro p  hle hfu; exact absurd hfu (by omega)
            | succ fu ih37 =>
              intro p  hle37 hfu37  
              have tn_p : (nI p).toInt = ((p : Nat) : Int) := nI_toInt (by omega)
              refine g_iload C 6 rfl dX7_clearest_37 ?_
              refine g_aload_n C 0 rfl dX7_clearest_39 ?_
              refine g_get C 0 7 0 (by omega) m0 rfl in7 (by decide) f7 (fun _ h9 => h9) rfl dX7_clearest_40 ?_
              refine g_iconst C 0 (by decide) dX7_clearest_43 ?_
              refine g_iald C 1 (by omega) m1 (vp_in_iff.mpr (by omega)) dX7_clearest_44 ?_
              refine g_eqst (st1 := ([.int (S 0), .int (nI p)] : List Value)) rfl ?_
              refine g_eqst (show ([.int (S 0), .int (nI p)] : List Value) = ([.int (nI σ.1), .int (nI p)] : List Value) from by rw [e0]) ?_
              refine g_icmp_ge C 91 (by decide) dX7_clearest_45 (fun c45 => ?_) (fun c45 => ?_)
              · -- taken at 45
                have c45' := i_le c45
                obtain rfl : σ.1 = p := by omega
                refine g_aload_n C 0 rfl dX7_clearest_91 ?_
                refine g_iload C 4 rfl dX7_clearest_92 ?_
                refine g_iload C 4 rfl dX7_clearest_94 ?_
                refine g_Vi C [.int (nI o), .int (nI o)] 0 7 (by omega) m0 rfl (c_X7_likeness l D kc N adr cell S Wa Bg As tx (nI hn) (nI L) at' re nu mo sh σ o o ⟨m0, m1, m2, m3, m4, m5, m6, m7, m8⟩ (by omega) hS hG) (cwV 2 C.2.2.2.2.1 gX7_clearest_X7_likeness rfl rfl rfl (by decide +kernel) ⟨Nat.le_of_ble_eq_true rfl, Nat.le_of_ble_eq_true rfl⟩) rfl rfl (Nat.le_of_ble_eq_true rfl) (Nat.zero_le _) (Nat.zero_le _) dX7_clearest_96 (fun v4 cell4 q4 => ?_)
                obtain ⟨rfl, rfl⟩ := q4
                refine g_iload C 5 rfl dX7_clearest_99 ?_
                refine g_isub C dX7_clearest_101 ?_
                refine g_eqst (show ([.int ((scr σ.1 σ.2.2.2.1 σ.2.2.2.2.2.2.1 (lookF σ.1 σ.2.2.2.1 (nI o)) (nI o)) - (msF σ.1 σ.2.2.2.1 σ.2.2.2.2.2.2.1 o σ.1))] : List Value) = ([.int (dfF σ o)] : List Value) from by rw [df_ms hg1 hG.2.2.2.1]) ?_
                refine g_istore C [(6, .int (dfF σ o)), (0, .ref (adr 0)), (1, .int x), (2, .int (clP σ o)), (3, .int (clB σ o)), (4, .int (nI o)), (5, .int (msF σ.1 σ.2.2.2.1 σ.2.2.2.2.2.2.1 o σ.1))] (by decide) rfl dX7_clearest_102 ?_
                refine g_iload C 0 rfl dX7_clearest_104 ?_
                refine g_iload_n C 4 rfl dX7_clearest_106 ?_
                refine g_icmp_le C 115 (by decide) dX7_clearest_107 (fun c107 => ?_) (fun c107 => ?_)
                · -- taken at 107
                  have c107' := i_le c107
                  refine g_iload_n C 3 rfl dX7_clearest_115 ?_
                  refine g_istore_n C [(2, .int (clP σ o)), (6, .int (dfF σ o)), (0, .ref (adr 0)), (1, .int x), (3, .int (clB σ o)), (4, .int (nI o)), (5, .int (msF σ.1 σ.2.2.2.1 σ.2.2.2.2.2.2.1 o σ.1))] (by decide) rfl dX7_clearest_116 ?_
                  refine g_iload C 1 rfl dX7_clearest_117 ?_
                  refine g_iload_n C 4 rfl dX7_clearest_119 ?_
                  refine g_icmp_le C 128 (by decide) dX7_clearest_120 (fun c120 => ?_) (fun c120 => ?_)
                  · -- taken at 120
                    have c120' := i_le c120
                    
                    refine g_iload_n C 4 rfl dX7_clearest_128 ?_
                    refine g_istore_n C [(3, .int (clB σ o)), (2, .int (clP σ o)), (6, .int (dfF σ o)), (0, .ref (adr 0)), (1, .int x), (4, .int (nI o)), (5, .int (msF σ.1 σ.2.2.2.1 σ.2.2.2.2.2.2.1 o σ.1))] (by decide) rfl dX7_clearest_129 ?_
                    refine g_iinc C 5 [(4, .int (nI (o + 1))), (3, .int (clB σ o)), (2, .int (clP σ o)), (6, .int (dfF σ o)), (0, .ref (adr 0)), (1, .int x), (5, .int (msF σ.1 σ.2.2.2.1 σ.2.2.2.2.2.2.1 o σ.1))] rfl (iinc_nI o) (by decide) rfl dX7_clearest_130 ?_
                    refine g_goto C 20 (by decide) dX7_clearest_133 ?_
                    have hb := clP_n (cl_n (df_rng hG.2.2.2.1) c107)
                    refine g_sub [4, 5, 2, 1, 0] rfl ?_
                    have ev_6 : clP σ o = clP σ (o + 1) := by exact hb.1
                    refine g_eqlv (lv1 := [(0, .ref (adr 0)), (1, .int x), (2, .int (clP σ (o + 1))), (3, .int (clB σ o)), (4, .int (nI (o + 1)))]) (congrArg (fun z0 : Int32 => ([(0, .ref (adr 0)), (1, .int x), (2, .int z0), (3, .int (clB σ o)), (4, .int (nI (o + 1)))] : List (Nat × Value))) ev_6) ?_
                    have ev_7 : clB σ o = clB σ (o + 1) := by exact hb.2
                    refine g_eqlv (lv1 := [(0, .ref (adr 0)), (1, .int x), (2, .int (clP σ (o + 1))), (3, .int (clB σ (o + 1))), (4, .int (nI (o + 1)))]) (congrArg (fun z0 : Int32 => ([(0, .ref (adr 0)), (1, .int x), (2, .int (clP σ (o + 1))), (3, .int z0), (4, .int (nI (o + 1)))] : List (Nat × Value))) ev_7) ?_
                    exact ih (o + 1) (by omega) (by omega) 
                  · -- not taken at 120
                    have c120' := i_nle c120
                    exact absurd c107 c120 --done
                · -- not taken at 107
                  have c107' := i_nle c107
                  refine g_iload C 5 rfl dX7_clearest_110 ?_
                  refine g_goto C 116 (by decide) dX7_clearest_112 ?_
                  refine g_istore_n C [(2, .int (nI o)), (6, .int (dfF σ o)), (0, .ref (adr 0)), (1, .int x), (3, .int (clB σ o)), (4, .int (nI o)), (5, .int (msF σ.1 σ.2.2.2.1 σ.2.2.2.2.2.2.1 o σ.1))] (by decide) rfl dX7_clearest_116 ?_
                  refine g_iload C 1 rfl dX7_clearest_117 ?_
                  refine g_iload_n C 4 rfl dX7_clearest_119 ?_
                  refine g_icmp_le C 128 (by decide) dX7_clearest_120 (fun c120 => ?_) (fun c120 => ?_)
                  · -- taken at 120
                    have c120' := i_le c120
                    exact absurd c120 c107 --done
                  · -- not taken at 120
                    have c120' := i_nle c120
                    
                    refine g_iload C 1 rfl dX7_clearest_123 ?_
                    refine g_goto C 129 (by decide) dX7_clearest_125 ?_
                    refine g_istore_n C [(3, .int (dfF σ o)), (2, .int (nI o)), (6, .int (dfF σ o)), (0, .ref (adr 0)), (1, .int x), (4, .int (nI o)), (5, .int (msF σ.1 σ.2.2.2.1 σ.2.2.2.2.2.2.1 o σ.1))] (by decide) rfl dX7_clearest_129 ?_
                    refine g_iinc C 5 [(4, .int (nI (o + 1))), (3, .int (dfF σ o)), (2, .int (nI o)), (6, .int (dfF σ o)), (0, .ref (adr 0)), (1, .int x), (5, .int (msF σ.1 σ.2.2.2.1 σ.2.2.2.2.2.2.1 o σ.1))] rfl (iinc_nI o) (by decide) rfl dX7_clearest_130 ?_
                    refine g_goto C 20 (by decide) dX7_clearest_133 ?_
                    have hb := clP_y (by omega) (cl_y c107)
                    refine g_sub [4, 5, 2, 1, 0] rfl ?_
                    have ev_8 : nI o = clP σ (o + 1) := by exact hb.1
                    refine g_eqlv (lv1 := [(0, .ref (adr 0)), (1, .int x), (2, .int (clP σ (o + 1))), (3, .int (dfF σ o)), (4, .int (nI (o + 1)))]) (congrArg (fun z0 : Int32 => ([(0, .ref (adr 0)), (1, .int x), (2, .int z0), (3, .int (dfF σ o)), (4, .int (nI (o + 1)))] : List (Nat × Value))) ev_8) ?_
                    have ev_9 : dfF σ o = clB σ (o + 1) := by exact hb.2
                    refine g_eqlv (lv1 := [(0, .ref (adr 0)), (1, .int x), (2, .int (clP σ (o + 1))), (3, .int (clB σ (o + 1))), (4, .int (nI (o + 1)))]) (congrArg (fun z0 : Int32 => ([(0, .ref (adr 0)), (1, .int x), (2, .int (clP σ (o + 1))), (3, .int z0), (4, .int (nI (o + 1)))] : List (Nat × Value))) ev_9) ?_
                    exact ih (o + 1) (by omega) (by omega) 
              · -- not taken at 45
                have c45' := i_nle c45
                refine g_iload C 6 rfl dX7_clearest_48 ?_
                refine g_iload C 4 rfl dX7_clearest_50 ?_
                refine g_icmp_ne C 59 (by decide) dX7_clearest_52 (fun c52 => ?_) (fun c52 => ?_)
                · -- taken at 52
                  have c52' := i_ne c52
                  refine g_aload_n C 0 rfl dX7_clearest_59 ?_
                  refine g_iload C 4 rfl dX7_clearest_60 ?_
                  refine g_iload C 6 rfl dX7_clearest_62 ?_
                  refine g_Vi C [.int (nI o), .int (nI p)] 0 7 (by omega) m0 rfl (c_X7_likeness l D kc N adr cell S Wa Bg As tx (nI hn) (nI L) at' re nu mo sh σ o p ⟨m0, m1, m2, m3, m4, m5, m6, m7, m8⟩ (by omega) hS hG) (cwV 2 C.2.2.2.2.1 gX7_clearest_X7_likeness rfl rfl rfl (by decide +kernel) ⟨Nat.le_of_ble_eq_true rfl, Nat.le_of_ble_eq_true rfl⟩) rfl rfl (Nat.le_of_ble_eq_true rfl) (Nat.zero_le _) (Nat.zero_le _) dX7_clearest_64 (fun v10 cell10 q10 => ?_)
                  obtain ⟨rfl, rfl⟩ := q10
                  refine g_istore C [(7, .int (scr σ.1 σ.2.2.2.1 σ.2.2.2.2.2.2.1 (lookF σ.1 σ.2.2.2.1 (nI o)) (nI p))), (0, .ref (adr 0)), (1, .int x), (2, .int (clP σ o)), (3, .int (clB σ o)), (4, .int (nI o)), (5, .int (msF σ.1 σ.2.2.2.1 σ.2.2.2.2.2.2.1 o p)), (6, .int (nI p))] (by decide) rfl dX7_clearest_67 ?_
                  refine g_iload C 0 rfl dX7_clearest_69 ?_
                  refine g_iload C 6 rfl dX7_clearest_71 ?_
                  refine g_icmp_le C 81 (by decide) dX7_clearest_73 (fun c73 => ?_) (fun c73 => ?_)
                  · -- taken at 73
                    have c73' := i_le c73
                    refine g_iload C 6 rfl dX7_clearest_81 ?_
                    refine g_istore C [(5, .int (msF σ.1 σ.2.2.2.1 σ.2.2.2.2.2.2.1 o p)), (7, .int (scr σ.1 σ.2.2.2.1 σ.2.2.2.2.2.2.1 (lookF σ.1 σ.2.2.2.1 (nI o)) (nI p))), (0, .ref (adr 0)), (1, .int x), (2, .int (clP σ o)), (3, .int (clB σ o)), (4, .int (nI o)), (6, .int (nI p))] (by decide) rfl dX7_clearest_83 ?_
                    refine g_iinc C 7 [(6, .int (nI (p + 1))), (5, .int (msF σ.1 σ.2.2.2.1 σ.2.2.2.2.2.2.1 o p)), (7, .int (scr σ.1 σ.2.2.2.1 σ.2.2.2.2.2.2.1 (lookF σ.1 σ.2.2.2.1 (nI o)) (nI p))), (0, .ref (adr 0)), (1, .int x), (2, .int (clP σ o)), (3, .int (clB σ o)), (4, .int (nI o))] rfl (iinc_nI p) (by decide) rfl dX7_clearest_85 ?_
                    refine g_goto C 37 (by decide) dX7_clearest_88 ?_
                    have hv9 := (if_neg c52 : msV σ.1 σ.2.2.2.1 σ.2.2.2.2.2.2.1 o p = scr σ.1 σ.2.2.2.1 σ.2.2.2.2.2.2.1 (lookF σ.1 σ.2.2.2.1 (nI o)) (nI p)).symm
                    have hb := ms_1 hv9 c73
                    refine g_sub [3, 4, 5, 6, 7, 1, 0] rfl ?_
                    have ev_11 : msF σ.1 σ.2.2.2.1 σ.2.2.2.2.2.2.1 o p = msF σ.1 σ.2.2.2.1 σ.2.2.2.2.2.2.1 o (p + 1) := by exact hb
                    refine g_eqlv (lv1 := [(0, .ref (adr 0)), (1, .int x), (2, .int (clP σ o)), (3, .int (clB σ o)), (4, .int (nI o)), (5, .int (msF σ.1 σ.2.2.2.1 σ.2.2.2.2.2.2.1 o (p + 1))), (6, .int (nI (p + 1)))]) (congrArg (fun z0 : Int32 => ([(0, .ref (adr 0)), (1, .int x), (2, .int (clP σ o)), (3, .int (clB σ o)), (4, .int (nI o)), (5, .int z0), (6, .int (nI (p + 1)))] : List (Nat × Value))) ev_11) ?_
                    exact ih37 (p + 1) (by omega) (by omega) 
                  · -- not taken at 73
                    have c73' := i_nle c73
                    refine g_iload C 0 rfl dX7_clearest_76 ?_
                    refine g_goto C 83 (by decide) dX7_clearest_78 ?_
                    refine g_istore C [(5, .int (scr σ.1 σ.2.2.2.1 σ.2.2.2.2.2.2.1 (lookF σ.1 σ.2.2.2.1 (nI o)) (nI p))), (7, .int (scr σ.1 σ.2.2.2.1 σ.2.2.2.2.2.2.1 (lookF σ.1 σ.2.2.2.1 (nI o)) (nI p))), (0, .ref (adr 0)), (1, .int x), (2, .int (clP σ o)), (3, .int (clB σ o)), (4, .int (nI o)), (6, .int (nI p))] (by decide) rfl dX7_clearest_83 ?_
                    refine g_iinc C 7 [(6, .int (nI (p + 1))), (5, .int (scr σ.1 σ.2.2.2.1 σ.2.2.2.2.2.2.1 (lookF σ.1 σ.2.2.2.1 (nI o)) (nI p))), (7, .int (scr σ.1 σ.2.2.2.1 σ.2.2.2.2.2.2.1 (lookF σ.1 σ.2.2.2.1 (nI o)) (nI p))), (0, .ref (adr 0)), (1, .int x), (2, .int (clP σ o)), (3, .int (clB σ o)), (4, .int (nI o))] rfl (iinc_nI p) (by decide) rfl dX7_clearest_85 ?_
                    refine g_goto C 37 (by decide) dX7_clearest_88 ?_
                    have hv9 := (if_neg c52 : msV σ.1 σ.2.2.2.1 σ.2.2.2.2.2.2.1 o p = scr σ.1 σ.2.2.2.1 σ.2.2.2.2.2.2.1 (lookF σ.1 σ.2.2.2.1 (nI o)) (nI p)).symm
                    have hb := ms_2 hv9 c73
                    refine g_sub [3, 4, 5, 6, 7, 1, 0] rfl ?_
                    have ev_12 : scr σ.1 σ.2.2.2.1 σ.2.2.2.2.2.2.1 (lookF σ.1 σ.2.2.2.1 (nI o)) (nI p) = msF σ.1 σ.2.2.2.1 σ.2.2.2.2.2.2.1 o (p + 1) := by exact hb
                    refine g_eqlv (lv1 := [(0, .ref (adr 0)), (1, .int x), (2, .int (clP σ o)), (3, .int (clB σ o)), (4, .int (nI o)), (5, .int (msF σ.1 σ.2.2.2.1 σ.2.2.2.2.2.2.1 o (p + 1))), (6, .int (nI (p + 1)))]) (congrArg (fun z0 : Int32 => ([(0, .ref (adr 0)), (1, .int x), (2, .int (clP σ o)), (3, .int (clB σ o)), (4, .int (nI o)), (5, .int z0), (6, .int (nI (p + 1)))] : List (Nat × Value))) ev_12) ?_
                    exact ih37 (p + 1) (by omega) (by omega) 
                · -- not taken at 52
                  have c52' := i_eq c52
                  refine g_iconst C 0 (by decide) dX7_clearest_55 ?_
                  refine g_goto C 67 (by decide) dX7_clearest_56 ?_
                  refine g_istore C [(7, .int 0), (0, .ref (adr 0)), (1, .int x), (2, .int (clP σ o)), (3, .int (clB σ o)), (4, .int (nI o)), (5, .int (msF σ.1 σ.2.2.2.1 σ.2.2.2.2.2.2.1 o p)), (6, .int (nI p))] (by decide) rfl dX7_clearest_67 ?_
                  refine g_iload C 0 rfl dX7_clearest_69 ?_
                  refine g_iload C 6 rfl dX7_clearest_71 ?_
                  refine g_icmp_le C 81 (by decide) dX7_clearest_73 (fun c73 => ?_) (fun c73 => ?_)
                  · -- taken at 73
                    have c73' := i_le c73
                    refine g_iload C 6 rfl dX7_clearest_81 ?_
                    refine g_istore C [(5, .int (msF σ.1 σ.2.2.2.1 σ.2.2.2.2.2.2.1 o p)), (7, .int 0), (0, .ref (adr 0)), (1, .int x), (2, .int (clP σ o)), (3, .int (clB σ o)), (4, .int (nI o)), (6, .int (nI p))] (by decide) rfl dX7_clearest_83 ?_
                    refine g_iinc C 7 [(6, .int (nI (p + 1))), (5, .int (msF σ.1 σ.2.2.2.1 σ.2.2.2.2.2.2.1 o p)), (7, .int 0), (0, .ref (adr 0)), (1, .int x), (2, .int (clP σ o)), (3, .int (clB σ o)), (4, .int (nI o))] rfl (iinc_nI p) (by decide) rfl dX7_clearest_85 ?_
                    refine g_goto C 37 (by decide) dX7_clearest_88 ?_
                    have hv9 := (if_pos c52 : msV σ.1 σ.2.2.2.1 σ.2.2.2.2.2.2.1 o p = 0).symm
                    have hb := ms_1 hv9 c73
                    refine g_sub [3, 4, 5, 6, 7, 1, 0] rfl ?_
                    have ev_13 : msF σ.1 σ.2.2.2.1 σ.2.2.2.2.2.2.1 o p = msF σ.1 σ.2.2.2.1 σ.2.2.2.2.2.2.1 o (p + 1) := by exact hb
                    refine g_eqlv (lv1 := [(0, .ref (adr 0)), (1, .int x), (2, .int (clP σ o)), (3, .int (clB σ o)), (4, .int (nI o)), (5, .int (msF σ.1 σ.2.2.2.1 σ.2.2.2.2.2.2.1 o (p + 1))), (6, .int (nI (p + 1)))]) (congrArg (fun z0 : Int32 => ([(0, .ref (adr 0)), (1, .int x), (2, .int (clP σ o)), (3, .int (clB σ o)), (4, .int (nI o)), (5, .int z0), (6, .int (nI (p + 1)))] : List (Nat × Value))) ev_13) ?_
                    exact ih37 (p + 1) (by omega) (by omega) 
                  · -- not taken at 73
                    have c73' := i_nle c73
                    refine g_iload C 0 rfl dX7_clearest_76 ?_
                    refine g_goto C 83 (by decide) dX7_clearest_78 ?_
                    refine g_istore C [(5, .int 0), (7, .int 0), (0, .ref (adr 0)), (1, .int x), (2, .int (clP σ o)), (3, .int (clB σ o)), (4, .int (nI o)), (6, .int (nI p))] (by decide) rfl dX7_clearest_83 ?_
                    refine g_iinc C 7 [(6, .int (nI (p + 1))), (5, .int 0), (7, .int 0), (0, .ref (adr 0)), (1, .int x), (2, .int (clP σ o)), (3, .int (clB σ o)), (4, .int (nI o))] rfl (iinc_nI p) (by decide) rfl dX7_clearest_85 ?_
                    refine g_goto C 37 (by decide) dX7_clearest_88 ?_
                    have hv9 := (if_pos c52 : msV σ.1 σ.2.2.2.1 σ.2.2.2.2.2.2.1 o p = 0).symm
                    have hb := ms_2 hv9 c73
                    refine g_sub [3, 4, 5, 6, 7, 1, 0] rfl ?_
                    have ev_14 : 0 = msF σ.1 σ.2.2.2.1 σ.2.2.2.2.2.2.1 o (p + 1) := by exact hb
                    refine g_eqlv (lv1 := [(0, .ref (adr 0)), (1, .int x), (2, .int (clP σ o)), (3, .int (clB σ o)), (4, .int (nI o)), (5, .int (msF σ.1 σ.2.2.2.1 σ.2.2.2.2.2.2.1 o (p + 1))), (6, .int (nI (p + 1)))]) (congrArg (fun z0 : Int32 => ([(0, .ref (adr 0)), (1, .int x), (2, .int (clP σ o)), (3, .int (clB σ o)), (4, .int (nI o)), (5, .int z0), (6, .int (nI (p + 1)))] : List (Nat × Value))) ev_14) ?_
                    exact ih37 (p + 1) (by omega) (by omega) 
          refine g_sub [2, 3, 4, 5, 6, 1, 0] rfl ?_
          have ev_15 : 0 = msF σ.1 σ.2.2.2.1 σ.2.2.2.2.2.2.1 o 0 := by rfl
          refine g_eqlv (lv1 := [(0, .ref (adr 0)), (1, .int x), (2, .int (clP σ o)), (3, .int (clB σ o)), (4, .int (nI o)), (5, .int (msF σ.1 σ.2.2.2.1 σ.2.2.2.2.2.2.1 o 0)), (6, .int 0)]) (congrArg (fun z0 : Int32 => ([(0, .ref (adr 0)), (1, .int x), (2, .int (clP σ o)), (3, .int (clB σ o)), (4, .int (nI o)), (5, .int z0), (6, .int 0)] : List (Nat × Value))) ev_15) ?_
          exact L37 (σ.1 + 1) 0 (by omega) (by omega) 
    refine g_sub [3, 4, 2, 1, 0] rfl ?_
    have ev_16 : (-1000004) = clP σ 0 := by rfl
    refine g_eqlv (lv1 := [(0, .ref (adr 0)), (1, .int x), (2, .int (clP σ 0)), (3, .int (-1)), (4, .int 0)]) (congrArg (fun z0 : Int32 => ([(0, .ref (adr 0)), (1, .int x), (2, .int z0), (3, .int (-1)), (4, .int 0)] : List (Nat × Value))) ev_16) ?_
    have ev_17 : (-1) = clB σ 0 := by rfl
    refine g_eqlv (lv1 := [(0, .ref (adr 0)), (1, .int x), (2, .int (clP σ 0)), (3, .int (clB σ 0)), (4, .int 0)]) (congrArg (fun z0 : Int32 => ([(0, .ref (adr 0)), (1, .int x), (2, .int (clP σ 0)), (3, .int z0), (4, .int 0)] : List (Nat × Value))) ev_17) ?_
    exact L20 (σ.1 + 1) 0 (by omega) (by omega) 
  · -- not taken at 6
    have c6' := bI_f c6
    refine g_ldc C (-1000001) k43 dX7_clearest_9 ?_
    refine g_iret C hr rfl hlk dX7_clearest_11 ?_
    exact ⟨by unfold clearestR; exact if_pos (by omega), rfl⟩
