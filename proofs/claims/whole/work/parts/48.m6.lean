set_option maxRecDepth 100000 in
set_option maxHeartbeats 4000000 in
theorem c_X7_is (l : Launch) (D : va_G) (kc : Nat → ClassId) (N : Nat) (adr : Nat → Nat) (cell : Nat → va_E) (S Wa Bg As tx : Nat → Int32) (st ty at' re : Int32) (nu mo sh : Nat → Int32) (σ : SD) (a : Nat) (x : Int32) (hB : MB cell adr kc S Wa Bg As st tx ty at' re nu mo sh) (hN : 9 ≤ N) (hS : MS S σ) (hG : Good σ) (ha : a < σ.2.1) : MI l yX7_is wsX7_is ({ frames := 6, cells := 0, slots := 0, locals := 140 }) D kc N adr cell [.ref (adr 0), .int (nI a), .int x] (fun (v : Int32) (cell1 : Nat → va_E) => bI (kindF σ.1 σ.2.2.2.1 σ.2.2.2.2.2.2.1 (σ.2.2.2.2.2.2.2.2.2 a) (σ.2.2.2.2.2.2.2.1 a) (σ.2.2.2.2.2.2.2.2.1 a) x) = v ∧ cell = cell1) := by
  refine met_i (cc := cX7_is) (maxL := 3) (ret := (some .boolean)) (by decide) rfl (Nat.le_of_ble_eq_true rfl) (lv := [(0, .ref (adr 0)), (1, .int (nI a)), (2, .int x)]) rfl ?_
  intro Pg Ev Sv Mi args below Me Cd Ar C hr hlk hnm
  have hB0 := hB
  obtain ⟨m0, m1, m2, m3, m4, m5, m6, m7, m8⟩ := hB
  have hg1 := hG.1
  have hg2 := hG.2.1
  have e0 := hS.1
  have e1 := hS.2.1
  have hv := (hG.2.2.2.2 a ha).2.1
  have litm1 : ((-1) : Int32).toInt = -1 := rfl
  have lit0 : (0 : Int32).toInt = 0 := rfl
  have lit1 : (1 : Int32).toInt = 1 := rfl
  have lit2 : (2 : Int32).toInt = 2 := rfl
  refine g_iload_n C 2 rfl dX7_is_0 ?_
  by_cases c1_3 : x = 3
  · have c1' := i_eq c1_3
    refine g_tableIn C 28 (by rw [c1_3]; decide) (by rw [c1_3]; decide) (by rw [c1_3] <;> rfl) (by decide) dX7_is_1 ?_
    refine g_aload_n C 0 rfl dX7_is_28 ?_
    refine g_iload_n C 1 rfl dX7_is_29 ?_
    refine g_Vi C [.int (nI a)] 0 7 (by omega) m0 rfl (c_X7_isTrue l D kc N adr cell S Wa Bg As tx st ty at' re nu mo sh σ a ⟨m0, m1, m2, m3, m4, m5, m6, m7, m8⟩ (by omega) hS hG (by omega)) (cwV 1 C.2.2.2.2.1 gX7_is_X7_isTrue rfl rfl rfl (by decide +kernel) ⟨Nat.le_of_ble_eq_true rfl, Nat.le_of_ble_eq_true rfl⟩) rfl rfl (Nat.le_of_ble_eq_true rfl) (Nat.zero_le _) (Nat.zero_le _) dX7_is_30 (fun v1 cell1 q1 => ?_)
    obtain ⟨rfl, rfl⟩ := q1
    refine g_iret C hr (bI_nar _) hlk dX7_is_33 ?_
    exact ⟨by unfold kindF; rw [if_neg (by rw [c1_3]; decide), if_pos c1_3], rfl⟩
  have c1n3 := i_ne c1_3
  by_cases c1_4 : x = 4
  · have c1' := i_eq c1_4
    refine g_tableIn C 34 (by rw [c1_4]; decide) (by rw [c1_4]; decide) (by rw [c1_4] <;> rfl) (by decide) dX7_is_1 ?_
    refine g_aload_n C 0 rfl dX7_is_34 ?_
    refine g_iload_n C 1 rfl dX7_is_35 ?_
    refine g_iconst C 1 (by decide) dX7_is_36 ?_
    refine g_Vi C [.int (nI a), .int 1] 0 7 (by omega) m0 rfl (c_X7_an l D kc N adr cell S Wa Bg As tx st ty at' re nu mo sh a 1 ⟨m0, m1, m2, m3, m4, m5, m6, m7, m8⟩ (by omega) (by omega)) (cwV 2 C.2.2.2.2.1 gX7_is_X7_an rfl rfl rfl (by decide +kernel) ⟨Nat.le_of_ble_eq_true rfl, Nat.le_of_ble_eq_true rfl⟩) rfl rfl (Nat.le_of_ble_eq_true rfl) (Nat.zero_le _) (Nat.zero_le _) dX7_is_37 (fun v2 cell2 q2 => ?_)
    obtain ⟨rfl, rfl⟩ := q2
    refine g_eqst (st1 := ([.int (σ.2.2.2.2.2.2.2.2.1 a)] : List Value)) (by rw [show S (48 + 7 * a + 1) = _ from (congrArg S (by omega : 48 + 7 * a + 1 = 49 + 7 * a)).trans (hS.2.2.2.2.2 a ha).2.1]) ?_
    refine g_if_ge C 47 (by decide) dX7_is_40 (fun c40 => ?_) (fun c40 => ?_)
    · -- taken at 40
      have c40' := i_le c40
      refine g_iconst C 0 (by decide) dX7_is_47 ?_
      refine g_iret C hr rfl hlk dX7_is_48 ?_
      exact ⟨by unfold kindF; rw [if_neg (by rw [c1_4]; decide), if_neg (by rw [c1_4]; decide), if_pos c1_4]; exact (bI_0 (fun h => by have h2 := i_eq h; omega)), rfl⟩
    · -- not taken at 40
      have c40' := i_nle c40
      refine g_iconst C 1 (by decide) dX7_is_43 ?_
      refine g_goto C 48 (by decide) dX7_is_44 ?_
      refine g_iret C hr rfl hlk dX7_is_48 ?_
      exact ⟨by unfold kindF; rw [if_neg (by rw [c1_4]; decide), if_neg (by rw [c1_4]; decide), if_pos c1_4]; exact (bI_1 (P := _ = _) (i_inj (by omega))), rfl⟩
  have c1n4 := i_ne c1_4
  by_cases c1_5 : x = 5
  · have c1' := i_eq c1_5
    refine g_tableIn C 49 (by rw [c1_5]; decide) (by rw [c1_5]; decide) (by rw [c1_5] <;> rfl) (by decide) dX7_is_1 ?_
    refine g_aload_n C 0 rfl dX7_is_49 ?_
    refine g_iload_n C 1 rfl dX7_is_50 ?_
    refine g_Vi C [.int (nI a)] 0 7 (by omega) m0 rfl (c_X7_how l D kc N adr cell S Wa Bg As tx st ty at' re nu mo sh σ a ⟨m0, m1, m2, m3, m4, m5, m6, m7, m8⟩ (by omega) hS hG (by omega)) (cwV 1 C.2.2.2.2.1 gX7_is_X7_how rfl rfl rfl (by decide +kernel) ⟨Nat.le_of_ble_eq_true rfl, Nat.le_of_ble_eq_true rfl⟩) rfl rfl (Nat.le_of_ble_eq_true rfl) (Nat.zero_le _) (Nat.zero_le _) dX7_is_51 (fun v4 cell4 q4 => ?_)
    obtain ⟨rfl, rfl⟩ := q4
    refine g_iconst C 2 (by decide) dX7_is_54 ?_
    refine g_icmp_ne C 71 (by decide) dX7_is_55 (fun c55 => ?_) (fun c55 => ?_)
    · -- taken at 55
      have c55' := i_ne c55
      refine g_iconst C 0 (by decide) dX7_is_71 ?_
      refine g_iret C hr rfl hlk dX7_is_72 ?_
      exact ⟨by unfold kindF; rw [if_neg (by rw [c1_5]; decide), if_neg (by rw [c1_5]; decide), if_neg (by rw [c1_5]; decide), if_pos c1_5]; exact (bI_0 (fun h => c55 (stand_2.mpr h.2))), rfl⟩
    · -- not taken at 55
      have c55' := i_eq c55
      refine g_aload_n C 0 rfl dX7_is_58 ?_
      refine g_iload_n C 1 rfl dX7_is_59 ?_
      refine g_iconst C 1 (by decide) dX7_is_60 ?_
      refine g_Vi C [.int (nI a), .int 1] 0 7 (by omega) m0 rfl (c_X7_an l D kc N adr cell S Wa Bg As tx st ty at' re nu mo sh a 1 ⟨m0, m1, m2, m3, m4, m5, m6, m7, m8⟩ (by omega) (by omega)) (cwV 2 C.2.2.2.2.1 gX7_is_X7_an rfl rfl rfl (by decide +kernel) ⟨Nat.le_of_ble_eq_true rfl, Nat.le_of_ble_eq_true rfl⟩) rfl rfl (Nat.le_of_ble_eq_true rfl) (Nat.zero_le _) (Nat.zero_le _) dX7_is_61 (fun v5 cell5 q5 => ?_)
      obtain ⟨rfl, rfl⟩ := q5
      refine g_eqst (st1 := ([.int (σ.2.2.2.2.2.2.2.2.1 a)] : List Value)) (by rw [show S (48 + 7 * a + 1) = _ from (congrArg S (by omega : 48 + 7 * a + 1 = 49 + 7 * a)).trans (hS.2.2.2.2.2 a ha).2.1]) ?_
      refine g_if_lt C 71 (by decide) dX7_is_64 (fun c64 => ?_) (fun c64 => ?_)
      · -- taken at 64
        have c64' := i_lt c64
        refine g_iconst C 0 (by decide) dX7_is_71 ?_
        refine g_iret C hr rfl hlk dX7_is_72 ?_
        exact ⟨by unfold kindF; rw [if_neg (by rw [c1_5]; decide), if_neg (by rw [c1_5]; decide), if_neg (by rw [c1_5]; decide), if_pos c1_5]; exact (bI_0 (fun h => h.1 (i_inj (by omega)))), rfl⟩
      · -- not taken at 64
        have c64' := i_nlt c64
        refine g_iconst C 1 (by decide) dX7_is_67 ?_
        refine g_goto C 72 (by decide) dX7_is_68 ?_
        refine g_iret C hr rfl hlk dX7_is_72 ?_
        exact ⟨by unfold kindF; rw [if_neg (by rw [c1_5]; decide), if_neg (by rw [c1_5]; decide), if_neg (by rw [c1_5]; decide), if_pos c1_5]; exact (bI_1 ⟨fun h => by rw [h] at c64; exact c64 (by decide), stand_2.mp c55⟩), rfl⟩
  have c1n5 := i_ne c1_5
  refine g_tableOut C 73 (by have hl0 : (3 : Int32).toInt = 3 := rfl; have hl1 : (4 : Int32).toInt = 4 := rfl; have hl2 : (5 : Int32).toInt = 5 := rfl; omega) (by decide) dX7_is_1 ?_
  refine g_aload_n C 0 rfl dX7_is_73 ?_
  refine g_iload_n C 1 rfl dX7_is_74 ?_
  refine g_Vi C [.int (nI a)] 0 7 (by omega) m0 rfl (c_X7_how l D kc N adr cell S Wa Bg As tx st ty at' re nu mo sh σ a ⟨m0, m1, m2, m3, m4, m5, m6, m7, m8⟩ (by omega) hS hG (by omega)) (cwV 1 C.2.2.2.2.1 gX7_is_X7_how rfl rfl rfl (by decide +kernel) ⟨Nat.le_of_ble_eq_true rfl, Nat.le_of_ble_eq_true rfl⟩) rfl rfl (Nat.le_of_ble_eq_true rfl) (Nat.zero_le _) (Nat.zero_le _) dX7_is_75 (fun v7 cell7 q7 => ?_)
  obtain ⟨rfl, rfl⟩ := q7
  refine g_iload_n C 2 rfl dX7_is_78 ?_
  refine g_icmp_ne C 86 (by decide) dX7_is_79 (fun c79 => ?_) (fun c79 => ?_)
  · -- taken at 79
    have c79' := i_ne c79
    refine g_iconst C 0 (by decide) dX7_is_86 ?_
    refine g_iret C hr rfl hlk dX7_is_87 ?_
    by_cases hx2 : x = 2
    · exact ⟨by unfold kindF; rw [if_pos hx2]; exact congrArg bI (Bool.eq_false_iff.mpr (fun h => c79 ((stand_2.mpr h).trans hx2.symm))), rfl⟩
    · exact ⟨by unfold kindF; rw [if_neg hx2, if_neg c1_3, if_neg c1_4, if_neg c1_5]; exact (bI_0 c79), rfl⟩
  · -- not taken at 79
    have c79' := i_eq c79
    refine g_iconst C 1 (by decide) dX7_is_82 ?_
    refine g_goto C 87 (by decide) dX7_is_83 ?_
    refine g_iret C hr rfl hlk dX7_is_87 ?_
    by_cases hx2 : x = 2
    · exact ⟨by unfold kindF; rw [if_pos hx2]; exact congrArg bI (stand_2.mp (c79.trans hx2)), rfl⟩
    · exact ⟨by unfold kindF; rw [if_neg hx2, if_neg c1_3, if_neg c1_4, if_neg c1_5]; exact (bI_1 c79), rfl⟩
