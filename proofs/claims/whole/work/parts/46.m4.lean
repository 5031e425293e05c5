set_option maxRecDepth 100000 in
set_option maxHeartbeats 4000000 in
theorem c_X7_how (l : Launch) (D : va_G) (kc : Nat → ClassId) (N : Nat) (adr : Nat → Nat) (cell : Nat → va_E) (S Wa Bg As tx : Nat → Int32) (st ty at' re : Int32) (nu mo sh : Nat → Int32) (σ : SD) (a : Nat) (hB : MB cell adr kc S Wa Bg As st tx ty at' re nu mo sh) (hN : 9 ≤ N) (hS : MS S σ) (hG : Good σ) (ha : a < σ.2.1) : MI l yX7_how wsX7_how ({ frames := 5, cells := 0, slots := 0, locals := 117 }) D kc N adr cell [.ref (adr 0), .int (nI a)] (fun (v : Int32) (cell1 : Nat → va_E) => standF σ.1 σ.2.2.2.1 σ.2.2.2.2.2.2.1 (σ.2.2.2.2.2.2.2.2.2 a) (σ.2.2.2.2.2.2.2.1 a) = v ∧ cell = cell1) := by
  refine met_i (cc := cX7_how) (maxL := 4) (ret := (some .int)) (by decide) rfl (Nat.le_of_ble_eq_true rfl) (lv := [(0, .ref (adr 0)), (1, .int (nI a))]) rfl ?_
  intro Pg Ev Sv Mi args below Me Cd Ar C hr hlk hnm
  have in7 : ∀ w ∈ u_ws RX7 TX7 12, w ∈ wsX7_how := by decide +kernel
  have f7 := C.2.2.2.2.1 (.fieldLink RX7 7 "WordAnchorsModel" "s" "[I") (by decide +kernel)
  have hB0 := hB
  obtain ⟨m0, m1, m2, m3, m4, m5, m6, m7, m8⟩ := hB
  have hg1 := hG.1
  have hg2 := hG.2.1
  have e0 := hS.1
  have e1 := hS.2.1
  have litm1 : ((-1) : Int32).toInt = -1 := rfl
  have lit0 : (0 : Int32).toInt = 0 := rfl
  have lit1 : (1 : Int32).toInt = 1 := rfl
  have lit2 : (2 : Int32).toInt = 2 := rfl
  have lit6 : (6 : Int32).toInt = 6 := rfl
  have lit7 : (7 : Int32).toInt = 7 := rfl
  refine g_aload_n C 0 rfl dX7_how_0 ?_
  refine g_iload_n C 1 rfl dX7_how_1 ?_
  refine g_iconst C (-1) (by decide) dX7_how_2 ?_
  refine g_Vi C [.int (nI a), .int (-1)] 0 7 (by omega) m0 rfl (c_X7_best l D kc N adr cell S Wa Bg As tx st ty at' re nu mo sh σ a (-1) ⟨m0, m1, m2, m3, m4, m5, m6, m7, m8⟩ (by omega) hS hG (by omega)) (cwV 2 C.2.2.2.2.1 gX7_how_X7_best rfl rfl rfl (by decide +kernel) ⟨Nat.le_of_ble_eq_true rfl, Nat.le_of_ble_eq_true rfl⟩) rfl rfl (Nat.le_of_ble_eq_true rfl) (Nat.zero_le _) (Nat.zero_le _) dX7_how_3 (fun v1 cell1 q1 => ?_)
  obtain ⟨rfl, rfl⟩ := q1
  refine g_istore_n C [(2, .int (bpF σ.1 σ.2.2.2.1 σ.2.2.2.2.2.2.1 (σ.2.2.2.2.2.2.2.2.2 a) (σ.2.2.2.2.2.2.2.1 a) (-1))), (0, .ref (adr 0)), (1, .int (nI a))] (by decide) rfl dX7_how_6 ?_
  refine g_iload_n C 0 rfl dX7_how_7 ?_
  refine g_if_lt C 27 (by decide) dX7_how_8 (fun c8 => ?_) (fun c8 => ?_)
  · -- taken at 8
    have c8' := i_lt c8
    refine g_iconst C 2 (by decide) dX7_how_27 ?_
    refine g_iret C hr rfl hlk dX7_how_28 ?_
    exact ⟨by unfold standF; exact if_pos (lost_t (Or.inl (bp_lt (by omega) c8))), rfl⟩
  · -- not taken at 8
    have c8' := i_nlt c8
    refine g_aload_n C 1 rfl dX7_how_11 ?_
    refine g_iload_n C 2 rfl dX7_how_12 ?_
    refine g_iload_n C 0 rfl dX7_how_13 ?_
    refine g_Vi C [.int (nI a), .int (bpF σ.1 σ.2.2.2.1 σ.2.2.2.2.2.2.1 (σ.2.2.2.2.2.2.2.2.2 a) (σ.2.2.2.2.2.2.2.1 a) (-1))] 0 7 (by omega) m0 rfl (c_X7_scoreAt l D kc N adr cell S Wa Bg As tx st ty at' re nu mo sh σ a (bpF σ.1 σ.2.2.2.1 σ.2.2.2.2.2.2.1 (σ.2.2.2.2.2.2.2.2.2 a) (σ.2.2.2.2.2.2.2.1 a) (-1)) ⟨m0, m1, m2, m3, m4, m5, m6, m7, m8⟩ (by omega) hS hG (by omega)) (cwV 2 C.2.2.2.2.1 gX7_how_X7_scoreAt rfl rfl rfl (by decide +kernel) ⟨Nat.le_of_ble_eq_true rfl, Nat.le_of_ble_eq_true rfl⟩) rfl rfl (Nat.le_of_ble_eq_true rfl) (Nat.zero_le _) (Nat.zero_le _) dX7_how_14 (fun v2 cell2 q2 => ?_)
    obtain ⟨rfl, rfl⟩ := q2
    refine g_aload_n C 1 rfl dX7_how_17 ?_
    refine g_get C 0 7 0 (by omega) m0 rfl in7 (by decide) f7 (fun _ h9 => h9) rfl dX7_how_18 ?_
    refine g_bipush C 6 (by decide) dX7_how_21 ?_
    refine g_iald C 1 (by omega) m1 (vp_in_iff.mpr (by omega)) dX7_how_23 ?_
    refine g_eqst (st1 := ([.int (S 6), .int (scr σ.1 σ.2.2.2.1 σ.2.2.2.2.2.2.1 (σ.2.2.2.2.2.2.2.2.2 a) (bpF σ.1 σ.2.2.2.1 σ.2.2.2.2.2.2.1 (σ.2.2.2.2.2.2.2.2.2 a) (σ.2.2.2.2.2.2.2.1 a) (-1)))] : List Value)) rfl ?_
    refine g_eqst (show ([.int (S 6), .int (scr σ.1 σ.2.2.2.1 σ.2.2.2.2.2.2.1 (σ.2.2.2.2.2.2.2.2.2 a) (bpF σ.1 σ.2.2.2.1 σ.2.2.2.2.2.2.1 (σ.2.2.2.2.2.2.2.2.2 a) (σ.2.2.2.2.2.2.2.1 a) (-1)))] : List Value) = ([.int (σ.2.2.2.2.2.2.1 3), .int (scr σ.1 σ.2.2.2.1 σ.2.2.2.2.2.2.1 (σ.2.2.2.2.2.2.2.2.2 a) (bpF σ.1 σ.2.2.2.1 σ.2.2.2.2.2.2.1 (σ.2.2.2.2.2.2.2.2.2 a) (σ.2.2.2.2.2.2.2.1 a) (-1)))] : List Value) from by rw [show S 6 = _ from hS.2.2.2.1 3 (by omega)]) ?_
    refine g_icmp_ge C 29 (by decide) dX7_how_24 (fun c24 => ?_) (fun c24 => ?_)
    · -- taken at 24
      have c24' := i_le c24
      refine g_aload_n C 1 rfl dX7_how_29 ?_
      refine g_iload_n C 2 rfl dX7_how_30 ?_
      refine g_iload_n C 0 rfl dX7_how_31 ?_
      refine g_Vi C [.int (nI a), .int (bpF σ.1 σ.2.2.2.1 σ.2.2.2.2.2.2.1 (σ.2.2.2.2.2.2.2.2.2 a) (σ.2.2.2.2.2.2.2.1 a) (-1))] 0 7 (by omega) m0 rfl (c_X7_best l D kc N adr cell S Wa Bg As tx st ty at' re nu mo sh σ a (bpF σ.1 σ.2.2.2.1 σ.2.2.2.2.2.2.1 (σ.2.2.2.2.2.2.2.2.2 a) (σ.2.2.2.2.2.2.2.1 a) (-1)) ⟨m0, m1, m2, m3, m4, m5, m6, m7, m8⟩ (by omega) hS hG (by omega)) (cwV 2 C.2.2.2.2.1 gX7_how_X7_best rfl rfl rfl (by decide +kernel) ⟨Nat.le_of_ble_eq_true rfl, Nat.le_of_ble_eq_true rfl⟩) rfl rfl (Nat.le_of_ble_eq_true rfl) (Nat.zero_le _) (Nat.zero_le _) dX7_how_32 (fun v4 cell4 q4 => ?_)
      obtain ⟨rfl, rfl⟩ := q4
      refine g_istore_n C [(3, .int (bpF σ.1 σ.2.2.2.1 σ.2.2.2.2.2.2.1 (σ.2.2.2.2.2.2.2.2.2 a) (σ.2.2.2.2.2.2.2.1 a) (bpF σ.1 σ.2.2.2.1 σ.2.2.2.2.2.2.1 (σ.2.2.2.2.2.2.2.2.2 a) (σ.2.2.2.2.2.2.2.1 a) (-1)))), (2, .int (bpF σ.1 σ.2.2.2.1 σ.2.2.2.2.2.2.1 (σ.2.2.2.2.2.2.2.2.2 a) (σ.2.2.2.2.2.2.2.1 a) (-1))), (0, .ref (adr 0)), (1, .int (nI a))] (by decide) rfl dX7_how_35 ?_
      refine g_iload_n C 0 rfl dX7_how_36 ?_
      refine g_if_lt C 67 (by decide) dX7_how_37 (fun c37 => ?_) (fun c37 => ?_)
      · -- taken at 37
        have c37' := i_lt c37
        refine g_iconst C 0 (by decide) dX7_how_67 ?_
        refine g_iret C hr rfl hlk dX7_how_68 ?_
        have hlo := lost_f (bp_nlt c8) c24
        exact ⟨by unfold standF; rw [if_neg (by rw [hlo]; decide)]; exact if_neg (fun h => h.1 (bp_lt (by omega) c37)), rfl⟩
      · -- not taken at 37
        have c37' := i_nlt c37
        refine g_aload_n C 2 rfl dX7_how_40 ?_
        refine g_iload_n C 3 rfl dX7_how_41 ?_
        refine g_iload_n C 0 rfl dX7_how_42 ?_
        refine g_Vi C [.int (nI a), .int (bpF σ.1 σ.2.2.2.1 σ.2.2.2.2.2.2.1 (σ.2.2.2.2.2.2.2.2.2 a) (σ.2.2.2.2.2.2.2.1 a) (bpF σ.1 σ.2.2.2.1 σ.2.2.2.2.2.2.1 (σ.2.2.2.2.2.2.2.2.2 a) (σ.2.2.2.2.2.2.2.1 a) (-1)))] 0 7 (by omega) m0 rfl (c_X7_scoreAt l D kc N adr cell S Wa Bg As tx st ty at' re nu mo sh σ a (bpF σ.1 σ.2.2.2.1 σ.2.2.2.2.2.2.1 (σ.2.2.2.2.2.2.2.2.2 a) (σ.2.2.2.2.2.2.2.1 a) (bpF σ.1 σ.2.2.2.1 σ.2.2.2.2.2.2.1 (σ.2.2.2.2.2.2.2.2.2 a) (σ.2.2.2.2.2.2.2.1 a) (-1))) ⟨m0, m1, m2, m3, m4, m5, m6, m7, m8⟩ (by omega) hS hG (by omega)) (cwV 2 C.2.2.2.2.1 gX7_how_X7_scoreAt rfl rfl rfl (by decide +kernel) ⟨Nat.le_of_ble_eq_true rfl, Nat.le_of_ble_eq_true rfl⟩) rfl rfl (Nat.le_of_ble_eq_true rfl) (Nat.zero_le _) (Nat.zero_le _) dX7_how_43 (fun v5 cell5 q5 => ?_)
        obtain ⟨rfl, rfl⟩ := q5
        refine g_aload_n C 2 rfl dX7_how_46 ?_
        refine g_iload_n C 3 rfl dX7_how_47 ?_
        refine g_iload_n C 1 rfl dX7_how_48 ?_
        refine g_Vi C [.int (nI a), .int (bpF σ.1 σ.2.2.2.1 σ.2.2.2.2.2.2.1 (σ.2.2.2.2.2.2.2.2.2 a) (σ.2.2.2.2.2.2.2.1 a) (-1))] 0 7 (by omega) m0 rfl (c_X7_scoreAt l D kc N adr cell S Wa Bg As tx st ty at' re nu mo sh σ a (bpF σ.1 σ.2.2.2.1 σ.2.2.2.2.2.2.1 (σ.2.2.2.2.2.2.2.2.2 a) (σ.2.2.2.2.2.2.2.1 a) (-1)) ⟨m0, m1, m2, m3, m4, m5, m6, m7, m8⟩ (by omega) hS hG (by omega)) (cwV 2 C.2.2.2.2.1 gX7_how_X7_scoreAt rfl rfl rfl (by decide +kernel) ⟨Nat.le_of_ble_eq_true rfl, Nat.le_of_ble_eq_true rfl⟩) rfl rfl (Nat.le_of_ble_eq_true rfl) (Nat.zero_le _) (Nat.zero_le _) dX7_how_49 (fun v6 cell6 q6 => ?_)
        obtain ⟨rfl, rfl⟩ := q6
        refine g_aload_n C 2 rfl dX7_how_52 ?_
        refine g_get C 0 7 0 (by omega) m0 rfl in7 (by decide) f7 (fun _ h9 => h9) rfl dX7_how_53 ?_
        refine g_bipush C 7 (by decide) dX7_how_56 ?_
        refine g_iald C 1 (by omega) m1 (vp_in_iff.mpr (by omega)) dX7_how_58 ?_
        refine g_eqst (st1 := ([.int (S 7), .int (scr σ.1 σ.2.2.2.1 σ.2.2.2.2.2.2.1 (σ.2.2.2.2.2.2.2.2.2 a) (bpF σ.1 σ.2.2.2.1 σ.2.2.2.2.2.2.1 (σ.2.2.2.2.2.2.2.2.2 a) (σ.2.2.2.2.2.2.2.1 a) (-1))), .int (scr σ.1 σ.2.2.2.1 σ.2.2.2.2.2.2.1 (σ.2.2.2.2.2.2.2.2.2 a) (bpF σ.1 σ.2.2.2.1 σ.2.2.2.2.2.2.1 (σ.2.2.2.2.2.2.2.2.2 a) (σ.2.2.2.2.2.2.2.1 a) (bpF σ.1 σ.2.2.2.1 σ.2.2.2.2.2.2.1 (σ.2.2.2.2.2.2.2.2.2 a) (σ.2.2.2.2.2.2.2.1 a) (-1))))] : List Value)) rfl ?_
        refine g_eqst (show ([.int (S 7), .int (scr σ.1 σ.2.2.2.1 σ.2.2.2.2.2.2.1 (σ.2.2.2.2.2.2.2.2.2 a) (bpF σ.1 σ.2.2.2.1 σ.2.2.2.2.2.2.1 (σ.2.2.2.2.2.2.2.2.2 a) (σ.2.2.2.2.2.2.2.1 a) (-1))), .int (scr σ.1 σ.2.2.2.1 σ.2.2.2.2.2.2.1 (σ.2.2.2.2.2.2.2.2.2 a) (bpF σ.1 σ.2.2.2.1 σ.2.2.2.2.2.2.1 (σ.2.2.2.2.2.2.2.2.2 a) (σ.2.2.2.2.2.2.2.1 a) (bpF σ.1 σ.2.2.2.1 σ.2.2.2.2.2.2.1 (σ.2.2.2.2.2.2.2.2.2 a) (σ.2.2.2.2.2.2.2.1 a) (-1))))] : List Value) = ([.int (σ.2.2.2.2.2.2.1 4), .int (scr σ.1 σ.2.2.2.1 σ.2.2.2.2.2.2.1 (σ.2.2.2.2.2.2.2.2.2 a) (bpF σ.1 σ.2.2.2.1 σ.2.2.2.2.2.2.1 (σ.2.2.2.2.2.2.2.2.2 a) (σ.2.2.2.2.2.2.2.1 a) (-1))), .int (scr σ.1 σ.2.2.2.1 σ.2.2.2.2.2.2.1 (σ.2.2.2.2.2.2.2.2.2 a) (bpF σ.1 σ.2.2.2.1 σ.2.2.2.2.2.2.1 (σ.2.2.2.2.2.2.2.2.2 a) (σ.2.2.2.2.2.2.2.1 a) (bpF σ.1 σ.2.2.2.1 σ.2.2.2.2.2.2.1 (σ.2.2.2.2.2.2.2.2.2 a) (σ.2.2.2.2.2.2.2.1 a) (-1))))] : List Value) from by rw [show S 7 = _ from hS.2.2.2.1 4 (by omega)]) ?_
        refine g_isub C dX7_how_59 ?_
        refine g_icmp_lt C 67 (by decide) dX7_how_60 (fun c60 => ?_) (fun c60 => ?_)
        · -- taken at 60
          have c60' := i_lt c60
          refine g_iconst C 0 (by decide) dX7_how_67 ?_
          refine g_iret C hr rfl hlk dX7_how_68 ?_
          have hlo := lost_f (bp_nlt c8) c24
          exact ⟨by unfold standF; rw [if_neg (by rw [hlo]; decide)]; exact if_neg (fun h => h.2 c60), rfl⟩
        · -- not taken at 60
          have c60' := i_nlt c60
          refine g_iconst C 1 (by decide) dX7_how_63 ?_
          refine g_goto C 68 (by decide) dX7_how_64 ?_
          refine g_iret C hr rfl hlk dX7_how_68 ?_
          have hlo := lost_f (bp_nlt c8) c24
          exact ⟨by unfold standF; rw [if_neg (by rw [hlo]; decide)]; exact if_pos ⟨bp_nlt c37, c60⟩, rfl⟩
    · -- not taken at 24
      have c24' := i_nle c24
      refine g_iconst C 2 (by decide) dX7_how_27 ?_
      refine g_iret C hr rfl hlk dX7_how_28 ?_
      exact ⟨by unfold standF; exact if_pos (lost_t (Or.inr c24)), rfl⟩
