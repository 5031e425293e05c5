set_option maxRecDepth 100000 in
set_option maxHeartbeats 4000000 in
theorem c_X7_fault (l : Launch) (D : va_G) (kc : Nat → ClassId) (N : Nat) (adr : Nat → Nat) (cell : Nat → va_E) (σ : SD) (hn : Nat) (hi : Nat → SD) (L : Nat) (ch : Nat → Int32) (x : Int32) (hM : MAt cell adr kc σ hn hi L ch) (hG : Good σ) (hN : 9 ≤ N) : MI l yX7_fault wsX7_fault ({ frames := 5, cells := 0, slots := 0, locals := 116 }) D kc N adr cell [.ref (adr 0), .int x] (fun (v : Int32) (cell1 : Nat → va_E) => faultR σ L ch x = v ∧ MAt cell1 adr kc σ hn hi L ch) := by
  refine met_i (cc := cX7_fault) (maxL := 3) (ret := (some .int)) (by decide) rfl (Nat.le_of_ble_eq_true rfl) (lv := [(0, .ref (adr 0)), (1, .int x)]) rfl ?_
  intro Pg Ev Sv Mi args below Me Cd Ar C hr hlk hnm
  have in7 : ∀ w ∈ u_ws RX7 TX7 12, w ∈ wsX7_fault := by decide +kernel
  have k100 := C.2.2.2.2.1 (.constant RX7 100 (-1000004)) (by decide +kernel)
  have f157 := C.2.2.2.2.1 (.fieldLink RX7 157 "WordAnchorsModel" "reason" "I") (by decide +kernel)
  have k43 := C.2.2.2.2.1 (.constant RX7 43 (-1000001)) (by decide +kernel)
  have hM0 := hM
  obtain ⟨S, Wa, Bg, As, tx, at', re, nu, mo, sh, hB, hS, hH, htx, hh4, hL60⟩ := hM
  have hB0 := hB
  obtain ⟨m0, m1, m2, m3, m4, m5, m6, m7, m8⟩ := hB
  have hg1 := hG.1
  have hg2 := hG.2.1
  have e0 := hS.1
  have e1 := hS.2.1
  have litm1000004 : ((-1000004) : Int32).toInt = -1000004 := rfl
  have litm1000001 : ((-1000001) : Int32).toInt = -1000001 := rfl
  have litm1 : ((-1) : Int32).toInt = -1 := rfl
  have lit0 : (0 : Int32).toInt = 0 := rfl
  have lit1 : (1 : Int32).toInt = 1 := rfl
  have tn___1 : (nI σ.1).toInt = ((σ.1 : Nat) : Int) := nI_toInt (by omega)
  have tn___2_1 : (nI σ.2.1).toInt = ((σ.2.1 : Nat) : Int) := nI_toInt (by omega)
  have tn_hn : (nI hn).toInt = ((hn : Nat) : Int) := nI_toInt (by omega)
  have tn_L : (nI L).toInt = ((L : Nat) : Int) := nI_toInt (by omega)
  refine g_iload_n C 1 rfl dX7_fault_0 ?_
  refine g_iconst C 0 (by decide) dX7_fault_1 ?_
  refine g_iconst C 1 (by decide) dX7_fault_2 ?_
  refine g_Si C [.int x, .int 0, .int 1] (c_X7_in l D kc N adr cell x 0 1) (va_cwS 3 C.2.2.2.2.1 gX7_fault_X7_in rfl rfl rfl (by decide +kernel) ⟨Nat.le_of_ble_eq_true rfl, Nat.le_of_ble_eq_true rfl⟩) rfl rfl (Nat.le_of_ble_eq_true rfl) (Nat.zero_le _) (Nat.zero_le _) dX7_fault_3 (fun v1 cell1 q1 => ?_)
  obtain ⟨rfl, rfl⟩ := q1
  refine g_if_ne C 12 (by decide) dX7_fault_6 (fun c6 => ?_) (fun c6 => ?_)
  · -- taken at 6
    have c6' := bI_t c6
    refine g_aload_n C 0 rfl dX7_fault_12 ?_
    refine g_Vi C [] 0 7 (by omega) m0 rfl (c_X7_faulty l D kc N adr cell S Wa Bg As tx (nI hn) (nI L) at' re nu mo sh σ L ch ⟨m0, m1, m2, m3, m4, m5, m6, m7, m8⟩ (by omega) hS hG rfl htx hL60) (cwV 0 C.2.2.2.2.1 gX7_fault_X7_faulty rfl rfl rfl (by decide +kernel) ⟨Nat.le_of_ble_eq_true rfl, Nat.le_of_ble_eq_true rfl⟩) rfl rfl (Nat.le_of_ble_eq_true rfl) (Nat.zero_le _) (Nat.zero_le _) dX7_fault_13 (fun v2 cell2 q2 => ?_)
    obtain ⟨S1, As1, at1, re1, nu1, mo1, rfl, ⟨h_3, h_4, h_5, h_6, h_7, h_8, h_9, h_10, h_11⟩, hS1, hre⟩ := q2
    refine g_istore_n C [(2, .int (fpF L ch σ)), (0, .ref (adr 0)), (1, .int x)] (by decide) rfl dX7_fault_16 ?_
    refine g_iload_n C 0 rfl dX7_fault_17 ?_
    refine g_ldc C (-1000004) k100 dX7_fault_18 ?_
    refine g_icmp_eq C 27 (by decide) dX7_fault_20 (fun c20 => ?_) (fun c20 => ?_)
    · -- taken at 20
      have c20' := i_eq c20
      refine g_iload_n C 0 rfl dX7_fault_27 ?_
      refine g_goto C 35 (by decide) dX7_fault_28 ?_
      refine g_iret C hr rfl hlk dX7_fault_35 ?_
      exact ⟨fr_1 hL60 (by omega) (Or.inl c20), ⟨_, _, _, _, _, _, _, _, _, _, ⟨h_3, h_4, h_5, h_6, h_7, h_8, h_9, h_10, h_11⟩, hS1, hH, htx, hh4, hL60⟩⟩
    · -- not taken at 20
      have c20' := i_ne c20
      refine g_iload_n C 2 rfl dX7_fault_23 ?_
      refine g_if_ne C 31 (by decide) dX7_fault_24 (fun c24 => ?_) (fun c24 => ?_)
      · -- taken at 24
        have c24' := i_ne c24
        refine g_aload_n C 1 rfl dX7_fault_31 ?_
        refine g_get C 0 7 8 (by omega) h_3 rfl in7 (by decide) f157 (fun _ h9 => h9) rfl dX7_fault_32 ?_
        refine g_iret C hr rfl hlk dX7_fault_35 ?_
        have hf2 := fr_2 hL60 (by omega) c20 c24
        exact ⟨hf2.1.trans (hre hf2.2).symm, ⟨_, _, _, _, _, _, _, _, _, _, ⟨h_3, h_4, h_5, h_6, h_7, h_8, h_9, h_10, h_11⟩, hS1, hH, htx, hh4, hL60⟩⟩
      · -- not taken at 24
        have c24' := i_eq c24
        refine g_iload_n C 0 rfl dX7_fault_27 ?_
        refine g_goto C 35 (by decide) dX7_fault_28 ?_
        refine g_iret C hr rfl hlk dX7_fault_35 ?_
        exact ⟨fr_1 hL60 (by omega) (Or.inr c24), ⟨_, _, _, _, _, _, _, _, _, _, ⟨h_3, h_4, h_5, h_6, h_7, h_8, h_9, h_10, h_11⟩, hS1, hH, htx, hh4, hL60⟩⟩
  · -- not taken at 6
    have c6' := bI_f c6
    refine g_ldc C (-1000001) k43 dX7_fault_9 ?_
    refine g_iret C hr rfl hlk dX7_fault_11 ?_
    exact ⟨by unfold faultR; exact if_pos (by omega), hM0⟩
set_option maxRecDepth 100000 in
set_option maxHeartbeats 4000000 in
theorem c_X7_play (l : Launch) (D : va_G) (kc : Nat → ClassId) (N : Nat) (adr : Nat → Nat) (cell : Nat → va_E) (σ : SD) (hn : Nat) (hi : Nat → SD) (L : Nat) (ch : Nat → Int32)  (hM : MAt cell adr kc σ hn hi L ch) (hG : Good σ) (hN : 9 ≤ N) (hgh : ∀ i, i < hn → Good (hi i)) : MI l yX7_play wsX7_play ({ frames := 5, cells := 0, slots := 0, locals := 116 }) D kc N adr cell [.ref (adr 0)] (fun (v : Int32) (cell1 : Nat → va_E) => playR σ L ch = v ∧ MNx cell1 adr kc σ hn hi (playO σ L ch) L ch) := by
  refine met_i (cc := cX7_play) (maxL := 1) (ret := (some .int)) (by decide) rfl (Nat.le_of_ble_eq_true rfl) (lv := [(0, .ref (adr 0))]) rfl ?_
  intro Pg Ev Sv Mi args below Me Cd Ar C hr hlk hnm
  have in7 : ∀ w ∈ u_ws RX7 TX7 12, w ∈ wsX7_play := by decide +kernel
  have k100 := C.2.2.2.2.1 (.constant RX7 100 (-1000004)) (by decide +kernel)
  have f142 := C.2.2.2.2.1 (.fieldLink RX7 142 "WordAnchorsModel" "at" "I") (by decide +kernel)
  have f139 := C.2.2.2.2.1 (.fieldLink RX7 139 "WordAnchorsModel" "typed" "I") (by decide +kernel)
  have f7 := C.2.2.2.2.1 (.fieldLink RX7 7 "WordAnchorsModel" "s" "[I") (by decide +kernel)
  have k99 := C.2.2.2.2.1 (.constant RX7 99 (-1000002)) (by decide +kernel)
  have hM0 := hM
  obtain ⟨S, Wa, Bg, As, tx, at', re, nu, mo, sh, hB, hS, hH, htx, hh4, hL60⟩ := hM
  have hB0 := hB
  obtain ⟨m0, m1, m2, m3, m4, m5, m6, m7, m8⟩ := hB
  have hg1 := hG.1
  have hg2 := hG.2.1
  have e0 := hS.1
  have e1 := hS.2.1
  have litm1000004 : ((-1000004) : Int32).toInt = -1000004 := rfl
  have litm1000002 : ((-1000002) : Int32).toInt = -1000002 := rfl
  have litm1 : ((-1) : Int32).toInt = -1 := rfl
  have lit0 : (0 : Int32).toInt = 0 := rfl
  have lit1 : (1 : Int32).toInt = 1 := rfl
  have tn___1 : (nI σ.1).toInt = ((σ.1 : Nat) : Int) := nI_toInt (by omega)
  have tn___2_1 : (nI σ.2.1).toInt = ((σ.2.1 : Nat) : Int) := nI_toInt (by omega)
  have tn_hn : (nI hn).toInt = ((hn : Nat) : Int) := nI_toInt (by omega)
  have tn_L : (nI L).toInt = ((L : Nat) : Int) := nI_toInt (by omega)
  refine g_aload_n C 0 rfl dX7_play_0 ?_
  refine g_Vi C [] 0 7 (by omega) m0 rfl (c_X7_faulty l D kc N adr cell S Wa Bg As tx (nI hn) (nI L) at' re nu mo sh σ L ch ⟨m0, m1, m2, m3, m4, m5, m6, m7, m8⟩ (by omega) hS hG rfl htx hL60) (cwV 0 C.2.2.2.2.1 gX7_play_X7_faulty rfl rfl rfl (by decide +kernel) ⟨Nat.le_of_ble_eq_true rfl, Nat.le_of_ble_eq_true rfl⟩) rfl rfl (Nat.le_of_ble_eq_true rfl) (Nat.zero_le _) (Nat.zero_le _) dX7_play_1 (fun v1 cell1 q1 => ?_)
  obtain ⟨S0, As1, at1, re1, nu1, mo1, rfl, ⟨h_2, h_3, h_4, h_5, h_6, h_7, h_8, h_9, h_10⟩, hS1, hre⟩ := q1
  refine g_ldc C (-1000004) k100 dX7_play_4 ?_
  refine g_icmp_eq C 12 (by decide) dX7_play_6 (fun c6 => ?_) (fun c6 => ?_)
  · -- taken at 6
    have c6' := i_eq c6
    refine g_aload_n C 0 rfl dX7_play_12 ?_
    refine g_Vv C [] 0 7 (by omega) h_2 rfl (c_X7_keeps l D kc N adr cell1 S0 Wa Bg As1 tx (nI hn) (nI L) at1 re1 nu1 mo1 sh ⟨h_2, h_3, h_4, h_5, h_6, h_7, h_8, h_9, h_10⟩ (by omega)) (cwV 0 C.2.2.2.2.1 gX7_play_X7_keeps rfl rfl rfl (by decide +kernel) ⟨Nat.le_of_ble_eq_true rfl, Nat.le_of_ble_eq_true rfl⟩) rfl rfl (Nat.le_of_ble_eq_true rfl) (Nat.zero_le _) (Nat.zero_le _) dX7_play_13 (fun cell11 q11 => ?_)
    obtain ⟨h_12, h_13, h_14, h_15, h_16, h_17, h_18, h_19, h_20⟩ := q11
    have hr0 : (rhF L ch 60 0 σ).1 = 0 := (fp_eq hL60).mp c6
    have hBg : MS (fill S0 Bg 90) σ := ms_cong hS1 hg1 hg2 (fun j hj => fill_in hj)
    refine g_aload_n C 0 rfl dX7_play_16 ?_
    refine g_iconst C 0 (by decide) dX7_play_17 ?_
    refine g_put C 0 7 7 (by omega) h_12 rfl in7 tyX7 tyX7_ok nmX7 (by decide) f142 (fun _ h9 => h9) rfl (ty := .int) (by decide +kernel) rfl rfl (Nat.le_of_ble_eq_true rfl) dX7_play_18 ?_
    refine g_cell (fun cell21 ec21 => ?_)
    have h_22 : cell21 0 = .inr (7, [.ref (adr 1), .ref (adr 2), .ref (adr 3), .ref (adr 4), .int (nI hn), .ref (adr 5), .int (nI L), .int 0, .int re1, .ref (adr 6), .ref (adr 7), .ref (adr 8)]) := by rw [ec21]; exact va_up_self _ _ _
    have h_23 : cell21 1 = .inl (kc 0, 90, .inl S0) := by rw [ec21, va_up_ne _ _ (by omega)]; exact h_13
    have h_24 : cell21 2 = .inl (kc 0, 360, .inl Wa) := by rw [ec21, va_up_ne _ _ (by omega)]; exact h_14
    have h_25 : cell21 3 = .inl (kc 0, 90, .inl (fill S0 Bg 90)) := by rw [ec21, va_up_ne _ _ (by omega)]; exact h_15
    have h_26 : cell21 4 = .inl (kc 0, 90, .inl As1) := by rw [ec21, va_up_ne _ _ (by omega)]; exact h_16
    have h_27 : cell21 5 = .inl (kc 1, 60, .inl tx) := by rw [ec21, va_up_ne _ _ (by omega)]; exact h_17
    have h_28 : cell21 6 = .inl (kc 0, 3, .inl nu1) := by rw [ec21, va_up_ne _ _ (by omega)]; exact h_18
    have h_29 : cell21 7 = .inl (kc 0, 40, .inl mo1) := by rw [ec21, va_up_ne _ _ (by omega)]; exact h_19
    have h_30 : cell21 8 = .inl (kc 0, 6, .inl sh) := by rw [ec21, va_up_ne _ _ (by omega)]; exact h_20
    have L21 : ∀ (fu a : Nat) (cl : Nat → va_E) (s : SD) (f : Nat) (Sl mol nul : Nat → Int32), a ≤ L → L < a + fu → (q0 : cl 0 = .inr (7, [.ref (adr 1), .ref (adr 2), .ref (adr 3), .ref (adr 4), .int (nI hn), .ref (adr 5), .int (nI L), .int (nI a), .int re1, .ref (adr 6), .ref (adr 7), .ref (adr 8)])) → (q1 : cl 1 = .inl (kc 0, 90, .inl Sl)) → (q2 : cl 2 = .inl (kc 0, 360, .inl Wa)) → (q3 : cl 3 = .inl (kc 0, 90, .inl (fill S0 Bg 90))) → (q4 : cl 4 = .inl (kc 0, 90, .inl As1)) → (q5 : cl 5 = .inl (kc 1, 60, .inl tx)) → (q6 : cl 6 = .inl (kc 0, 3, .inl nul)) → (q7 : cl 7 = .inl (kc 0, 40, .inl mol)) → (q8 : cl 8 = .inl (kc 0, 6, .inl sh)) → (hms : MS Sl s) → (hgs : Good s) → (hrh : rhF L ch 60 0 σ = rhF L ch f a s) → (hff : L ≤ a + f) → G Pg l Ev (headSpec wsX7_play { frames := 5, cells := 0, slots := 0, locals := 116 }).room Sv Mi args below Me Cd D N adr Ar Sv.heap 1 0 0 (MQ below (va_Qi (fun (v : Int32) (cell1 : Nat → va_E) => playR σ L ch = v ∧ MNx cell1 adr kc σ hn hi (playO σ L ch) L ch) (fun (cell1 : Nat → va_E) (t : State) => va_P D vwCl (wld N adr cell1) t.heap) Ar) args Sv 0 0 Ar) cl 21 [(0, .ref (adr 0))] ([] : List Value) := by
      intro fu
      induction fu with
      | zero => intro a cl s f Sl mol nul hle hfu; exact absurd hfu (by omega)
      | succ fu ih =>
        intro a cl s f Sl mol nul hle21 hfu21 q0 q1 q2 q3 q4 q5 q6 q7 q8 hms hgs hrh hff
        have tn_a : (nI a).toInt = ((a : Nat) : Int) := nI_toInt (by omega)
        refine g_aload_n C 0 rfl dX7_play_21 ?_
        refine g_get C 0 7 7 (by omega) q0 rfl in7 (by decide) f142 (fun _ h9 => h9) rfl dX7_play_22 ?_
        refine g_aload_n C 0 rfl dX7_play_25 ?_
        refine g_get C 0 7 6 (by omega) q0 rfl in7 (by decide) f139 (fun _ h9 => h9) rfl dX7_play_26 ?_
        refine g_icmp_ge C 40 (by decide) dX7_play_29 (fun c29 => ?_) (fun c29 => ?_)
        · -- taken at 29
          have c29' := i_le c29
          have hrn : rhF L ch 60 0 σ = (0, a, s) := by rw [hrh]; exact rh_end (by omega)
          have hs9 : (rhF L ch 60 0 σ).2.2 = s := by rw [hrn]
          have hsn := hgs.1
          refine g_aload_n C 0 rfl dX7_play_40 ?_
          refine g_aload_n C 0 rfl dX7_play_41 ?_
          refine g_get C 0 7 0 (by omega) q0 rfl in7 (by decide) f7 (fun _ h9 => h9) rfl dX7_play_42 ?_
          refine g_iconst C 0 (by decide) dX7_play_45 ?_
          refine g_iald C 1 (by omega) q1 (vp_in_iff.mpr (by omega)) dX7_play_46 ?_
          refine g_eqst (st1 := ([.int (Sl 0), .ref (adr 0)] : List Value)) rfl ?_
          refine g_eqst (show ([.int (Sl 0), .ref (adr 0)] : List Value) = ([.int (nI (s.1)), .ref (adr 0)] : List Value) from by rw [show Sl 0 = nI s.1 from hms.1]) ?_
          refine g_Vi C [.int (nI (s.1))] 0 7 (by omega) q0 rfl (c_X7_acted l D kc N adr cl Sl Wa (fill S0 Bg 90) As1 tx (nI hn) (nI L) (nI a) re1 nul mol sh (nI (s.1)) hn ⟨q0, q1, q2, q3, q4, q5, q6, q7, q8⟩ (by omega) rfl hh4) (cwV 1 C.2.2.2.2.1 gX7_play_X7_acted rfl rfl rfl (by decide +kernel) ⟨Nat.le_of_ble_eq_true rfl, Nat.le_of_ble_eq_true rfl⟩) rfl rfl (Nat.le_of_ble_eq_true rfl) (Nat.zero_le _) (Nat.zero_le _) dX7_play_47 (fun v33 cell33 q33 => ?_)
          obtain ⟨rfl, Wa1, ⟨h_34, h_35, h_36, h_37, h_38, h_39, h_40, h_41, h_42⟩, hw1, hw2⟩ := q33
          refine g_iret C hr rfl hlk dX7_play_50 ?_
          have hO : playO σ L ch = some s := by unfold playO; rw [if_pos hr0, hs9]
          exact ⟨by unfold playR; rw [if_neg (fun h => h hr0), hs9], mat_act ⟨h_34, h_35, h_36, h_37, h_38, h_39, h_40, h_41, h_42⟩ (ms_yes hO hms) (sg_some hO (nI_sg (by omega))) hBg hG hgh hH hw1 hw2 htx hh4 hL60⟩
        · -- not taken at 29
          have c29' := i_nle c29
          refine g_aload_n C 0 rfl dX7_play_32 ?_
          refine g_Vi C [] 0 7 (by omega) q0 rfl (c_X7_doesNext l D kc N adr cl Sl Wa (fill S0 Bg 90) As1 tx (nI hn) (nI L) (nI a) re1 nul mol sh s L ch a ⟨q0, q1, q2, q3, q4, q5, q6, q7, q8⟩ (by omega) hms hgs rfl rfl htx hL60 (by omega) (by omega)) (cwV 0 C.2.2.2.2.1 gX7_play_X7_doesNext rfl rfl rfl (by decide +kernel) ⟨Nat.le_of_ble_eq_true rfl, Nat.le_of_ble_eq_true rfl⟩) rfl rfl (Nat.le_of_ble_eq_true rfl) (Nat.zero_le _) (Nat.zero_le _) dX7_play_33 (fun v43 cell43 q43 => ?_)
          obtain ⟨S1, at1, nu1, mo1, rfl, ⟨h_44, h_45, h_46, h_47, h_48, h_49, h_50, h_51, h_52⟩, hS1, hat1⟩ := q43
          obtain ⟨e, hed, hfl⟩ := rh_z (L := L) (ch := ch) (f := f) (a := a) (s := s) (by omega) (by omega) (by rw [← hrh]; exact hr0)
          obtain rfl := hat1 e hed
          obtain ⟨hea, heL⟩ := ed_rng hed
          have hS2 : MS S1 (apE L ch a s) := by rw [dneS_0 hed hfl] at hS1; exact hS1
          have hrh2 : rhF L ch 60 0 σ = rhF L ch (f - 1) at1 (apE L ch a s) := by rw [hrh, rh_ok (by omega) (by omega) hed hfl]
          refine g_pop C rfl dX7_play_36 ?_
          refine g_goto C 21 (by decide) dX7_play_37 ?_
          exact ih at1 _ (apE L ch a s) (f - 1) S1 mo1 nu1 (by omega) (by omega) h_44 h_45 h_46 h_47 h_48 h_49 h_50 h_51 h_52 hS2 (good_apE hgs hed hfl) hrh2 (by omega)
    exact L21 (L + 1) 0 _ σ 60 S0 mo1 nu1 (by omega) (by omega) h_22 h_23 h_24 h_25 h_26 h_27 h_28 h_29 h_30 hS1 hG rfl (by omega)
  · -- not taken at 6
    have c6' := i_ne c6
    refine g_ldc C (-1000002) k99 dX7_play_9 ?_
    refine g_iret C hr rfl hlk dX7_play_11 ?_
    have hr0 : ¬ (rhF L ch 60 0 σ).1 = 0 := fun h => c6 ((fp_eq hL60).mpr h)
    exact ⟨by unfold playR; exact if_pos hr0, MNx.no (by unfold playO; exact if_neg hr0) ⟨_, _, _, _, _, _, _, _, _, _, ⟨h_2, h_3, h_4, h_5, h_6, h_7, h_8, h_9, h_10⟩, hS1, hH, htx, hh4, hL60⟩⟩
