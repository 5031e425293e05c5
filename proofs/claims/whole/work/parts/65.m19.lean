set_option maxRecDepth 100000 in
set_option maxHeartbeats 4000000 in
theorem c_X7_faulty (l : Launch) (D : va_G) (kc : Nat → ClassId) (N : Nat) (adr : Nat → Nat) (cell : Nat → va_E) (S Wa Bg As tx : Nat → Int32) (st ty at' re : Int32) (nu mo sh : Nat → Int32) (σ : SD) (L : Nat) (ch : Nat → Int32) (hB : MB cell adr kc S Wa Bg As st tx ty at' re nu mo sh) (hN : 9 ≤ N) (hS : MS S σ) (hG : Good σ) (hty : ty = nI L) (htx : ∀ j : Nat, j < L → tx j = ch j) (hL60 : L ≤ 60) : MI l yX7_faulty wsX7_faulty ({ frames := 4, cells := 0, slots := 0, locals := 94 }) D kc N adr cell [.ref (adr 0)] (fun (v : Int32) (cell1 : Nat → va_E) => ∃ (S1 As1 : Nat → Int32) (at1 re1 : Int32) (nu1 mo1 : Nat → Int32), fpF L ch σ = v ∧ MB cell1 adr kc S1 Wa Bg As1 st tx (nI L) at1 re1 nu1 mo1 sh ∧ MS S1 σ ∧ (¬ (rhF L ch 60 0 σ).1 = 0 → re1 = (rhF L ch 60 0 σ).1)) := by
  refine met_i (cc := cX7_faulty) (maxL := 3) (ret := (some .int)) (by decide) rfl (Nat.le_of_ble_eq_true rfl) (lv := [(0, .ref (adr 0))]) rfl ?_
  intro Pg Ev Sv Mi args below Me Cd Ar C hr hlk hnm
  have in7 : ∀ w ∈ u_ws RX7 TX7 12, w ∈ wsX7_faulty := by decide +kernel
  have k100 := C.2.2.2.2.1 (.constant RX7 100 (-1000004)) (by decide +kernel)
  have f142 := C.2.2.2.2.1 (.fieldLink RX7 142 "WordAnchorsModel" "at" "I") (by decide +kernel)
  have f139 := C.2.2.2.2.1 (.fieldLink RX7 139 "WordAnchorsModel" "typed" "I") (by decide +kernel)
  have f157 := C.2.2.2.2.1 (.fieldLink RX7 157 "WordAnchorsModel" "reason" "I") (by decide +kernel)
  subst hty
  have hB0 := hB
  obtain ⟨m0, m1, m2, m3, m4, m5, m6, m7, m8⟩ := hB
  have hg1 := hG.1
  have hg2 := hG.2.1
  have e0 := hS.1
  have e1 := hS.2.1
  have litm1000004 : ((-1000004) : Int32).toInt = -1000004 := rfl
  have litm1 : ((-1) : Int32).toInt = -1 := rfl
  have lit0 : (0 : Int32).toInt = 0 := rfl
  have lit1 : (1 : Int32).toInt = 1 := rfl
  have tn_L : (nI L).toInt = ((L : Nat) : Int) := nI_toInt (by omega)
  refine g_aload_n C 0 rfl dX7_faulty_0 ?_
  refine g_Vv C [] 0 7 (by omega) m0 rfl (c_X7_lays l D kc N adr cell S Wa Bg As tx st (nI L) at' re nu mo sh ⟨m0, m1, m2, m3, m4, m5, m6, m7, m8⟩ (by omega)) (cwV 0 C.2.2.2.2.1 gX7_faulty_X7_lays rfl rfl rfl (by decide +kernel) ⟨Nat.le_of_ble_eq_true rfl, Nat.le_of_ble_eq_true rfl⟩) rfl rfl (Nat.le_of_ble_eq_true rfl) (Nat.zero_le _) (Nat.zero_le _) dX7_faulty_1 (fun cell1 q1 => ?_)
  obtain ⟨h_2, h_3, h_4, h_5, h_6, h_7, h_8, h_9, h_10⟩ := q1
  refine g_ldc C (-1000004) k100 dX7_faulty_4 ?_
  refine g_istore_n C [(1, .int (-1000004)), (0, .ref (adr 0))] (by decide) rfl dX7_faulty_6 ?_
  refine g_aload_n C 1 rfl dX7_faulty_7 ?_
  refine g_iconst C 0 (by decide) dX7_faulty_8 ?_
  refine g_put C 0 7 7 (by omega) h_2 rfl in7 tyX7 tyX7_ok nmX7 (by decide) f142 (fun _ h9 => h9) rfl (ty := .int) (by decide +kernel) rfl rfl (Nat.le_of_ble_eq_true rfl) dX7_faulty_9 ?_
  refine g_cell (fun cell11 ec11 => ?_)
  have h_12 : cell11 0 = .inr (7, [.ref (adr 1), .ref (adr 2), .ref (adr 3), .ref (adr 4), .int st, .ref (adr 5), .int (nI L), .int 0, .int re, .ref (adr 6), .ref (adr 7), .ref (adr 8)]) := by rw [ec11]; exact va_up_self _ _ _
  have h_13 : cell11 1 = .inl (kc 0, 90, .inl S) := by rw [ec11, va_up_ne _ _ (by omega)]; exact h_3
  have h_14 : cell11 2 = .inl (kc 0, 360, .inl Wa) := by rw [ec11, va_up_ne _ _ (by omega)]; exact h_4
  have h_15 : cell11 3 = .inl (kc 0, 90, .inl Bg) := by rw [ec11, va_up_ne _ _ (by omega)]; exact h_5
  have h_16 : cell11 4 = .inl (kc 0, 90, .inl (fill S As 90)) := by rw [ec11, va_up_ne _ _ (by omega)]; exact h_6
  have h_17 : cell11 5 = .inl (kc 1, 60, .inl tx) := by rw [ec11, va_up_ne _ _ (by omega)]; exact h_7
  have h_18 : cell11 6 = .inl (kc 0, 3, .inl nu) := by rw [ec11, va_up_ne _ _ (by omega)]; exact h_8
  have h_19 : cell11 7 = .inl (kc 0, 40, .inl mo) := by rw [ec11, va_up_ne _ _ (by omega)]; exact h_9
  have h_20 : cell11 8 = .inl (kc 0, 6, .inl sh) := by rw [ec11, va_up_ne _ _ (by omega)]; exact h_10
  have L12 : ∀ (fu a : Nat) (cl : Nat → va_E) (s : SD) (f : Nat) (Sl mol nul : Nat → Int32) (rel : Int32), a ≤ L → L < a + fu → (q0 : cl 0 = .inr (7, [.ref (adr 1), .ref (adr 2), .ref (adr 3), .ref (adr 4), .int st, .ref (adr 5), .int (nI L), .int (nI a), .int rel, .ref (adr 6), .ref (adr 7), .ref (adr 8)])) → (q1 : cl 1 = .inl (kc 0, 90, .inl Sl)) → (q2 : cl 2 = .inl (kc 0, 360, .inl Wa)) → (q3 : cl 3 = .inl (kc 0, 90, .inl Bg)) → (q4 : cl 4 = .inl (kc 0, 90, .inl (fill S As 90))) → (q5 : cl 5 = .inl (kc 1, 60, .inl tx)) → (q6 : cl 6 = .inl (kc 0, 3, .inl nul)) → (q7 : cl 7 = .inl (kc 0, 40, .inl mol)) → (q8 : cl 8 = .inl (kc 0, 6, .inl sh)) → (hms : MS Sl s) → (hgs : Good s) → (hrh : rhF L ch 60 0 σ = rhF L ch f a s) → (hff : L ≤ a + f) → G Pg l Ev (headSpec wsX7_faulty { frames := 4, cells := 0, slots := 0, locals := 94 }).room Sv Mi args below Me Cd D N adr Ar Sv.heap 3 0 0 (MQ below (va_Qi (fun (v : Int32) (cell1 : Nat → va_E) => ∃ (S1 As1 : Nat → Int32) (at1 re1 : Int32) (nu1 mo1 : Nat → Int32), fpF L ch σ = v ∧ MB cell1 adr kc S1 Wa Bg As1 st tx (nI L) at1 re1 nu1 mo1 sh ∧ MS S1 σ ∧ (¬ (rhF L ch 60 0 σ).1 = 0 → re1 = (rhF L ch 60 0 σ).1)) (fun (cell1 : Nat → va_E) (t : State) => va_P D vwCl (wld N adr cell1) t.heap) Ar) args Sv 0 0 Ar) cl 12 [(0, .ref (adr 0)), (1, .int (-1000004))] ([] : List Value) := by
    intro fu
    induction fu with
    | zero => intro a cl s f Sl mol nul rel hle hfu; exact absurd hfu (by omega)
    | succ fu ih =>
      intro a cl s f Sl mol nul rel hle12 hfu12 q0 q1 q2 q3 q4 q5 q6 q7 q8 hms hgs hrh hff
      have tn_a : (nI a).toInt = ((a : Nat) : Int) := nI_toInt (by omega)
      refine g_aload_n C 0 rfl dX7_faulty_12 ?_
      refine g_get C 0 7 7 (by omega) q0 rfl in7 (by decide) f142 (fun _ h9 => h9) rfl dX7_faulty_13 ?_
      refine g_aload_n C 0 rfl dX7_faulty_16 ?_
      refine g_get C 0 7 6 (by omega) q0 rfl in7 (by decide) f139 (fun _ h9 => h9) rfl dX7_faulty_17 ?_
      refine g_icmp_ge C 58 (by decide) dX7_faulty_20 (fun c20 => ?_) (fun c20 => ?_)
      · -- taken at 20
        have c20' := i_le c20
        refine g_aload_n C 0 rfl dX7_faulty_58 ?_
        refine g_Vv C [] 0 7 (by omega) q0 rfl (c_X7_restores l D kc N adr cl Sl Wa Bg (fill S As 90) tx st (nI L) (nI a) rel nul mol sh ⟨q0, q1, q2, q3, q4, q5, q6, q7, q8⟩ (by omega)) (cwV 0 C.2.2.2.2.1 gX7_faulty_X7_restores rfl rfl rfl (by decide +kernel) ⟨Nat.le_of_ble_eq_true rfl, Nat.le_of_ble_eq_true rfl⟩) rfl rfl (Nat.le_of_ble_eq_true rfl) (Nat.zero_le _) (Nat.zero_le _) dX7_faulty_59 (fun cell22 q22 => ?_)
        obtain ⟨h_23, h_24, h_25, h_26, h_27, h_28, h_29, h_30, h_31⟩ := q22
        refine g_iload_n C 1 rfl dX7_faulty_62 ?_
        refine g_iret C hr rfl hlk dX7_faulty_63 ?_
        have hrn : rhF L ch 60 0 σ = (0, a, s) := by rw [hrh]; exact rh_end (by omega)
        exact ⟨_, _, _, _, _, _, by unfold fpF; rw [hrn]; exact if_pos rfl, ⟨h_23, h_24, h_25, h_26, h_27, h_28, h_29, h_30, h_31⟩, ms_cong hS hg1 hg2 (fun j hj => by rw [fill_in hj, fill_in hj]), fun h => absurd (by rw [hrn]) h⟩
      · -- not taken at 20
        have c20' := i_nle c20
        refine g_iload_n C 1 rfl dX7_faulty_23 ?_
        refine g_ldc C (-1000004) k100 dX7_faulty_24 ?_
        refine g_icmp_ne C 58 (by decide) dX7_faulty_26 (fun c26 => ?_) (fun c26 => ?_)
        · -- taken at 26
          have c26' := i_ne c26
          exact absurd rfl c26 --done
        · -- not taken at 26
          have c26' := i_eq c26
          
          refine g_aload_n C 0 rfl dX7_faulty_29 ?_
          refine g_get C 0 7 7 (by omega) q0 rfl in7 (by decide) f142 (fun _ h9 => h9) rfl dX7_faulty_30 ?_
          refine g_istore_n C [(2, .int (nI a)), (0, .ref (adr 0)), (1, .int (-1000004))] (by decide) rfl dX7_faulty_33 ?_
          refine g_aload_n C 1 rfl dX7_faulty_34 ?_
          refine g_aload_n C 1 rfl dX7_faulty_35 ?_
          refine g_Vi C [] 0 7 (by omega) q0 rfl (c_X7_doesNext l D kc N adr cl Sl Wa Bg (fill S As 90) tx st (nI L) (nI a) rel nul mol sh s L ch a ⟨q0, q1, q2, q3, q4, q5, q6, q7, q8⟩ (by omega) hms hgs rfl rfl htx hL60 (by omega) (by omega)) (cwV 0 C.2.2.2.2.1 gX7_faulty_X7_doesNext rfl rfl rfl (by decide +kernel) ⟨Nat.le_of_ble_eq_true rfl, Nat.le_of_ble_eq_true rfl⟩) rfl rfl (Nat.le_of_ble_eq_true rfl) (Nat.zero_le _) (Nat.zero_le _) dX7_faulty_36 (fun v32 cell32 q32 => ?_)
          obtain ⟨S1, at1, nu1, mo1, rfl, ⟨h_33, h_34, h_35, h_36, h_37, h_38, h_39, h_40, h_41⟩, hS1, hat1⟩ := q32
          refine g_put C 0 7 8 (by omega) h_33 rfl in7 tyX7 tyX7_ok nmX7 (by decide) f157 (fun _ h9 => h9) rfl (ty := .int) (by decide +kernel) rfl rfl (Nat.le_of_ble_eq_true rfl) dX7_faulty_39 ?_
          refine g_cell (fun cell42 ec42 => ?_)
          have h_43 : cell42 0 = .inr (7, [.ref (adr 1), .ref (adr 2), .ref (adr 3), .ref (adr 4), .int st, .ref (adr 5), .int (nI L), .int (nI at1), .int (dneF L ch a s), .ref (adr 6), .ref (adr 7), .ref (adr 8)]) := by rw [ec42]; exact va_up_self _ _ _
          have h_44 : cell42 1 = .inl (kc 0, 90, .inl S1) := by rw [ec42, va_up_ne _ _ (by omega)]; exact h_34
          have h_45 : cell42 2 = .inl (kc 0, 360, .inl Wa) := by rw [ec42, va_up_ne _ _ (by omega)]; exact h_35
          have h_46 : cell42 3 = .inl (kc 0, 90, .inl Bg) := by rw [ec42, va_up_ne _ _ (by omega)]; exact h_36
          have h_47 : cell42 4 = .inl (kc 0, 90, .inl (fill S As 90)) := by rw [ec42, va_up_ne _ _ (by omega)]; exact h_37
          have h_48 : cell42 5 = .inl (kc 1, 60, .inl tx) := by rw [ec42, va_up_ne _ _ (by omega)]; exact h_38
          have h_49 : cell42 6 = .inl (kc 0, 3, .inl nu1) := by rw [ec42, va_up_ne _ _ (by omega)]; exact h_39
          have h_50 : cell42 7 = .inl (kc 0, 40, .inl mo1) := by rw [ec42, va_up_ne _ _ (by omega)]; exact h_40
          have h_51 : cell42 8 = .inl (kc 0, 6, .inl sh) := by rw [ec42, va_up_ne _ _ (by omega)]; exact h_41
          refine g_aload_n C 1 rfl dX7_faulty_42 ?_
          refine g_get C 0 7 8 (by omega) h_43 rfl in7 (by decide) f157 (fun _ h9 => h9) rfl dX7_faulty_43 ?_
          refine g_if_le C 53 (by decide) dX7_faulty_46 (fun c46 => ?_) (fun c46 => ?_)
          · -- taken at 46
            have c46' := i_le c46
            obtain ⟨e, hed, hfl⟩ := dne_0 c46
            obtain rfl := hat1 e hed
            obtain ⟨hea, heL⟩ := ed_rng hed
            have hS2 : MS S1 (apE L ch a s) := by rw [dneS_0 hed hfl] at hS1; exact hS1
            have hrh2 : rhF L ch 60 0 σ = rhF L ch (f - 1) at1 (apE L ch a s) := by rw [hrh, rh_ok (by omega) (by omega) hed hfl]
            refine g_iload_n C 2 rfl dX7_faulty_53 ?_
            refine g_istore_n C [(1, .int (-1000004)), (2, .int (nI a)), (0, .ref (adr 0))] (by decide) rfl dX7_faulty_54 ?_
            refine g_goto C 12 (by decide) dX7_faulty_55 ?_
            refine g_sub [2, 0] rfl ?_
            exact ih at1 _ (apE L ch a s) (f - 1) S1 mo1 nu1 (dneF L ch a s) (by omega) (by omega) h_43 h_44 h_45 h_46 h_47 h_48 h_49 h_50 h_51 hS2 (good_apE hgs hed hfl) hrh2 (by omega)
          · -- not taken at 46
            have c46' := i_nle c46
            refine g_iload_n C 0 rfl dX7_faulty_49 ?_
            refine g_goto C 54 (by decide) dX7_faulty_50 ?_
            refine g_istore_n C [(1, .int (nI a)), (2, .int (nI a)), (0, .ref (adr 0))] (by decide) rfl dX7_faulty_54 ?_
            refine g_goto C 12 (by decide) dX7_faulty_55 ?_
            refine g_aload_n C 2 rfl dX7_faulty_12 ?_
            refine g_get C 0 7 7 (by omega) h_43 rfl in7 (by decide) f142 (fun _ h9 => h9) rfl dX7_faulty_13 ?_
            refine g_aload_n C 2 rfl dX7_faulty_16 ?_
            refine g_get C 0 7 6 (by omega) h_43 rfl in7 (by decide) f139 (fun _ h9 => h9) rfl dX7_faulty_17 ?_
            refine g_icmp_ge C 58 (by decide) dX7_faulty_20 (fun c20 => ?_) (fun c20 => ?_)
            · -- taken at 20
              have c20' := i_le c20
              refine g_aload_n C 2 rfl dX7_faulty_58 ?_
              refine g_Vv C [] 0 7 (by omega) h_43 rfl (c_X7_restores l D kc N adr cell42 S1 Wa Bg (fill S As 90) tx st (nI L) (nI at1) (dneF L ch a s) nu1 mo1 sh ⟨h_43, h_44, h_45, h_46, h_47, h_48, h_49, h_50, h_51⟩ (by omega)) (cwV 0 C.2.2.2.2.1 gX7_faulty_X7_restores rfl rfl rfl (by decide +kernel) ⟨Nat.le_of_ble_eq_true rfl, Nat.le_of_ble_eq_true rfl⟩) rfl rfl (Nat.le_of_ble_eq_true rfl) (Nat.zero_le _) (Nat.zero_le _) dX7_faulty_59 (fun cell53 q53 => ?_)
              obtain ⟨h_54, h_55, h_56, h_57, h_58, h_59, h_60, h_61, h_62⟩ := q53
              refine g_iload_n C 0 rfl dX7_faulty_62 ?_
              refine g_iret C hr rfl hlk dX7_faulty_63 ?_
              have hrn : rhF L ch 60 0 σ = (dneF L ch a s, a, s) := by rw [hrh]; exact dne_bad (by omega) (by omega) c46
              exact ⟨_, _, _, _, _, _, by unfold fpF; rw [hrn]; exact if_neg (fun h : dneF L ch a s = 0 => c46 (by rw [h]; exact Int32.le_refl _)), ⟨h_54, h_55, h_56, h_57, h_58, h_59, h_60, h_61, h_62⟩, ms_cong hS hg1 hg2 (fun j hj => by rw [fill_in hj, fill_in hj]), fun _ => by rw [hrn]⟩
            · -- not taken at 20
              have c20' := i_nle c20
              refine g_iload_n C 0 rfl dX7_faulty_23 ?_
              refine g_ldc C (-1000004) k100 dX7_faulty_24 ?_
              refine g_icmp_ne C 58 (by decide) dX7_faulty_26 (fun c26 => ?_) (fun c26 => ?_)
              · -- taken at 26
                have c26' := i_ne c26
                
                refine g_aload_n C 2 rfl dX7_faulty_58 ?_
                refine g_Vv C [] 0 7 (by omega) h_43 rfl (c_X7_restores l D kc N adr cell42 S1 Wa Bg (fill S As 90) tx st (nI L) (nI at1) (dneF L ch a s) nu1 mo1 sh ⟨h_43, h_44, h_45, h_46, h_47, h_48, h_49, h_50, h_51⟩ (by omega)) (cwV 0 C.2.2.2.2.1 gX7_faulty_X7_restores rfl rfl rfl (by decide +kernel) ⟨Nat.le_of_ble_eq_true rfl, Nat.le_of_ble_eq_true rfl⟩) rfl rfl (Nat.le_of_ble_eq_true rfl) (Nat.zero_le _) (Nat.zero_le _) dX7_faulty_59 (fun cell63 q63 => ?_)
                obtain ⟨h_64, h_65, h_66, h_67, h_68, h_69, h_70, h_71, h_72⟩ := q63
                refine g_iload_n C 0 rfl dX7_faulty_62 ?_
                refine g_iret C hr rfl hlk dX7_faulty_63 ?_
                have hrn : rhF L ch 60 0 σ = (dneF L ch a s, a, s) := by rw [hrh]; exact dne_bad (by omega) (by omega) c46
                exact ⟨_, _, _, _, _, _, by unfold fpF; rw [hrn]; exact if_neg (fun h : dneF L ch a s = 0 => c46 (by rw [h]; exact Int32.le_refl _)), ⟨h_64, h_65, h_66, h_67, h_68, h_69, h_70, h_71, h_72⟩, ms_cong hS hg1 hg2 (fun j hj => by rw [fill_in hj, fill_in hj]), fun _ => by rw [hrn]⟩
              · -- not taken at 26
                have c26' := i_eq c26
                exact absurd c26 (nI_m4 (by omega)) --done
  refine g_sub [1, 0] rfl ?_
  exact L12 (L + 1) 0 _ σ 60 S mo nu re (by omega) (by omega) h_12 h_13 h_14 h_15 h_16 h_17 h_18 h_19 h_20 hS hG rfl (by omega)
