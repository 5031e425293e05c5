set_option maxRecDepth 100000 in
set_option maxHeartbeats 4000000 in
theorem c_X7_isTrue (l : Launch) (D : va_G) (kc : Nat → ClassId) (N : Nat) (adr : Nat → Nat) (cell : Nat → va_E) (S Wa Bg As tx : Nat → Int32) (st ty at' re : Int32) (nu mo sh : Nat → Int32) (σ : SD) (a : Nat) (hB : MB cell adr kc S Wa Bg As st tx ty at' re nu mo sh) (hN : 9 ≤ N) (hS : MS S σ) (hG : Good σ) (ha : a < σ.2.1) : MI l yX7_isTrue wsX7_isTrue ({ frames := 5, cells := 0, slots := 0, locals := 117 }) D kc N adr cell [.ref (adr 0), .int (nI a)] (fun (v : Int32) (cell1 : Nat → va_E) => bI (decide (¬ (σ.2.2.2.2.2.2.2.2.1 a) = -1 ∧ (σ.2.2.2.2.2.2.2.2.1 a) = bpF σ.1 σ.2.2.2.1 σ.2.2.2.2.2.2.1 (σ.2.2.2.2.2.2.2.2.2 a) (σ.2.2.2.2.2.2.2.1 a) (-1))) = v ∧ cell = cell1) := by
  refine met_i (cc := cX7_isTrue) (maxL := 2) (ret := (some .boolean)) (by decide) rfl (Nat.le_of_ble_eq_true rfl) (lv := [(0, .ref (adr 0)), (1, .int (nI a))]) rfl ?_
  intro Pg Ev Sv Mi args below Me Cd Ar C hr hlk hnm
  have hB0 := hB
  obtain ⟨m0, m1, m2, m3, m4, m5, m6, m7, m8⟩ := hB
  have hg1 := hG.1
  have hg2 := hG.2.1
  have e0 := hS.1
  have e1 := hS.2.1
  have hv := (hG.2.2.2.2 a ha).2.1
  have litm1 : ((-1) : Int32).toInt = -1 := rfl
  have lit0 : (0 : Int32).toInt = 0 := rfl
  have lit1 : (1 : Int32).toInt = 1 := rfl
  refine g_aload_n C 0 rfl dX7_isTrue_0 ?_
  refine g_iload_n C 1 rfl dX7_isTrue_1 ?_
  refine g_iconst C 1 (by decide) dX7_isTrue_2 ?_
  refine g_Vi C [.int (nI a), .int 1] 0 7 (by omega) m0 rfl (c_X7_an l D kc N adr cell S Wa Bg As tx st ty at' re nu mo sh a 1 ⟨m0, m1, m2, m3, m4, m5, m6, m7, m8⟩ (by omega) (by omega)) (cwV 2 C.2.2.2.2.1 gX7_isTrue_X7_an rfl rfl rfl (by decide +kernel) ⟨Nat.le_of_ble_eq_true rfl, Nat.le_of_ble_eq_true rfl⟩) rfl rfl (Nat.le_of_ble_eq_true rfl) (Nat.zero_le _) (Nat.zero_le _) dX7_isTrue_3 (fun v1 cell1 q1 => ?_)
  obtain ⟨rfl, rfl⟩ := q1
  refine g_eqst (st1 := ([.int (σ.2.2.2.2.2.2.2.2.1 a)] : List Value)) (by rw [show S (48 + 7 * a + 1) = _ from (congrArg S (by omega : 48 + 7 * a + 1 = 49 + 7 * a)).trans (hS.2.2.2.2.2 a ha).2.1]) ?_
  refine g_if_lt C 28 (by decide) dX7_isTrue_6 (fun c6 => ?_) (fun c6 => ?_)
  · -- taken at 6
    have c6' := i_lt c6
    refine g_iconst C 0 (by decide) dX7_isTrue_28 ?_
    refine g_iret C hr rfl hlk dX7_isTrue_29 ?_
    exact ⟨bI_0 (fun h => h.1 (i_inj (by omega))), rfl⟩
  · -- not taken at 6
    have c6' := i_nlt c6
    refine g_aload_n C 0 rfl dX7_isTrue_9 ?_
    refine g_iload_n C 1 rfl dX7_isTrue_10 ?_
    refine g_iconst C (-1) (by decide) dX7_isTrue_11 ?_
    refine g_Vi C [.int (nI a), .int (-1)] 0 7 (by omega) m0 rfl (c_X7_best l D kc N adr cell S Wa Bg As tx st ty at' re nu mo sh σ a (-1) ⟨m0, m1, m2, m3, m4, m5, m6, m7, m8⟩ (by omega) hS hG (by omega)) (cwV 2 C.2.2.2.2.1 gX7_isTrue_X7_best rfl rfl rfl (by decide +kernel) ⟨Nat.le_of_ble_eq_true rfl, Nat.le_of_ble_eq_true rfl⟩) rfl rfl (Nat.le_of_ble_eq_true rfl) (Nat.zero_le _) (Nat.zero_le _) dX7_isTrue_12 (fun v3 cell3 q3 => ?_)
    obtain ⟨rfl, rfl⟩ := q3
    refine g_aload_n C 0 rfl dX7_isTrue_15 ?_
    refine g_iload_n C 1 rfl dX7_isTrue_16 ?_
    refine g_iconst C 1 (by decide) dX7_isTrue_17 ?_
    refine g_Vi C [.int (nI a), .int 1] 0 7 (by omega) m0 rfl (c_X7_an l D kc N adr cell S Wa Bg As tx st ty at' re nu mo sh a 1 ⟨m0, m1, m2, m3, m4, m5, m6, m7, m8⟩ (by omega) (by omega)) (cwV 2 C.2.2.2.2.1 gX7_isTrue_X7_an rfl rfl rfl (by decide +kernel) ⟨Nat.le_of_ble_eq_true rfl, Nat.le_of_ble_eq_true rfl⟩) rfl rfl (Nat.le_of_ble_eq_true rfl) (Nat.zero_le _) (Nat.zero_le _) dX7_isTrue_18 (fun v4 cell4 q4 => ?_)
    obtain ⟨rfl, rfl⟩ := q4
    refine g_eqst (st1 := ([.int (σ.2.2.2.2.2.2.2.2.1 a), .int (bpF σ.1 σ.2.2.2.1 σ.2.2.2.2.2.2.1 (σ.2.2.2.2.2.2.2.2.2 a) (σ.2.2.2.2.2.2.2.1 a) (-1))] : List Value)) (by rw [show S (48 + 7 * a + 1) = _ from (congrArg S (by omega : 48 + 7 * a + 1 = 49 + 7 * a)).trans (hS.2.2.2.2.2 a ha).2.1]) ?_
    refine g_icmp_ne C 28 (by decide) dX7_isTrue_21 (fun c21 => ?_) (fun c21 => ?_)
    · -- taken at 21
      have c21' := i_ne c21
      refine g_iconst C 0 (by decide) dX7_isTrue_28 ?_
      refine g_iret C hr rfl hlk dX7_isTrue_29 ?_
      exact ⟨bI_0 (fun h => c21 h.2.symm), rfl⟩
    · -- not taken at 21
      have c21' := i_eq c21
      refine g_iconst C 1 (by decide) dX7_isTrue_24 ?_
      refine g_goto C 29 (by decide) dX7_isTrue_25 ?_
      refine g_iret C hr rfl hlk dX7_isTrue_29 ?_
      exact ⟨bI_1 ⟨fun h => by rw [h] at c6; exact c6 (by decide), c21.symm⟩, rfl⟩
