set_option maxRecDepth 100000 in
set_option maxHeartbeats 4000000 in
theorem c_X7_sign (l : Launch) (D : va_G) (kc : Nat → ClassId) (N : Nat) (adr : Nat → Nat) (cell : Nat → va_E) (S Wa Bg As tx : Nat → Int32) (st ty at' re : Int32) (nu mo sh : Nat → Int32) (L : Nat) (ch : Nat → Int32) (a : Nat)  (hB : MB cell adr kc S Wa Bg As st tx ty at' re nu mo sh) (hN : 9 ≤ N) (hat : at' = nI a) (hty : ty = nI L) (htx : ∀ j : Nat, j < L → tx j = ch j) (hL60 : L ≤ 60) (ha : a < 1000) : MI l yX7_sign wsX7_sign ({ frames := 0, cells := 0, slots := 0, locals := 0 }) D kc N adr cell [.ref (adr 0)] (fun (v : Int32) (cell1 : Nat → va_E) => sgF L ch a = v ∧ cell = cell1) := by
  refine met_i (cc := cX7_sign) (maxL := 1) (ret := (some .int)) (by decide) rfl (Nat.le_of_ble_eq_true rfl) (lv := [(0, .ref (adr 0))]) rfl ?_
  intro Pg Ev Sv Mi args below Me Cd Ar C hr hlk hnm
  have in7 : ∀ w ∈ u_ws RX7 TX7 12, w ∈ wsX7_sign := by decide +kernel
  have f142 := C.2.2.2.2.1 (.fieldLink RX7 142 "WordAnchorsModel" "at" "I") (by decide +kernel)
  have f139 := C.2.2.2.2.1 (.fieldLink RX7 139 "WordAnchorsModel" "typed" "I") (by decide +kernel)
  have f22 := C.2.2.2.2.1 (.fieldLink RX7 22 "WordAnchorsModel" "text" "[C") (by decide +kernel)
  subst hat hty
  have hB0 := hB
  obtain ⟨m0, m1, m2, m3, m4, m5, m6, m7, m8⟩ := hB
  have litm1 : ((-1) : Int32).toInt = -1 := rfl
  have lit0 : (0 : Int32).toInt = 0 := rfl
  have lit1 : (1 : Int32).toInt = 1 := rfl
  have tn_a : (nI a).toInt = ((a : Nat) : Int) := nI_toInt (by omega)
  have tn_L : (nI L).toInt = ((L : Nat) : Int) := nI_toInt (by omega)
  refine g_aload_n C 0 rfl dX7_sign_0 ?_
  refine g_get C 0 7 7 (by omega) m0 rfl in7 (by decide) f142 (fun _ h9 => h9) rfl dX7_sign_1 ?_
  refine g_aload_n C 0 rfl dX7_sign_4 ?_
  refine g_get C 0 7 6 (by omega) m0 rfl in7 (by decide) f139 (fun _ h9 => h9) rfl dX7_sign_5 ?_
  refine g_icmp_ge C 23 (by decide) dX7_sign_8 (fun c8 => ?_) (fun c8 => ?_)
  · -- taken at 8
    have c8' := i_le c8
    refine g_iconst C (-1) (by decide) dX7_sign_23 ?_
    refine g_iret C hr rfl hlk dX7_sign_24 ?_
    exact ⟨if_neg (by omega), rfl⟩
  · -- not taken at 8
    have c8' := i_nle c8
    refine g_aload_n C 0 rfl dX7_sign_11 ?_
    refine g_get C 0 7 5 (by omega) m0 rfl in7 (by decide) f22 (fun _ h9 => h9) rfl dX7_sign_12 ?_
    refine g_aload_n C 0 rfl dX7_sign_15 ?_
    refine g_get C 0 7 7 (by omega) m0 rfl in7 (by decide) f142 (fun _ h9 => h9) rfl dX7_sign_16 ?_
    refine g_cald C 5 (by omega) m5 (vp_in_nI (by omega) (by omega)) dX7_sign_19 ?_
    refine g_eqst (show ([.int (tx (nI a).toNatClampNeg)] : List Value) = ([.int (tx a)] : List Value) from by rw [nI_clamp (by omega)]) ?_
    refine g_goto C 24 (by decide) dX7_sign_20 ?_
    refine g_iret C hr rfl hlk dX7_sign_24 ?_
    exact ⟨(if_pos (by omega)).trans (htx a (by omega)).symm, rfl⟩
set_option maxRecDepth 100000 in
set_option maxHeartbeats 4000000 in
theorem c_X7_readsNumber (l : Launch) (D : va_G) (kc : Nat → ClassId) (N : Nat) (adr : Nat → Nat) (cell : Nat → va_E) (S Wa Bg As tx : Nat → Int32) (st ty at' re : Int32) (nu mo sh : Nat → Int32) (L : Nat) (ch : Nat → Int32) (a : Nat) (k : Nat) (hB : MB cell adr kc S Wa Bg As st tx ty at' re nu mo sh) (hN : 9 ≤ N) (hat : at' = nI a) (hty : ty = nI L) (htx : ∀ j : Nat, j < L → tx j = ch j) (hL60 : L ≤ 60) (ha : a < 1000) (hk : k < 3) (ha2 : a < 900) : MI l yX7_readsNumber wsX7_readsNumber ({ frames := 1, cells := 0, slots := 0, locals := 22 }) D kc N adr cell [.ref (adr 0), .int (nI k)] (fun (v : Int32) (cell1 : Nat → va_E) => bI (decide (¬ numC L ch a = 0)) = v ∧ MB cell1 adr kc S Wa Bg As st tx (nI L) (nI (a + numC L ch a)) re (upd nu k (numV L ch a (numC L ch a))) mo sh) := by
  refine met_i (cc := cX7_readsNumber) (maxL := 4) (ret := (some .boolean)) (by decide) rfl (Nat.le_of_ble_eq_true rfl) (lv := [(0, .ref (adr 0)), (1, .int (nI k))]) rfl ?_
  intro Pg Ev Sv Mi args below Me Cd Ar C hr hlk hnm
  have in7 : ∀ w ∈ u_ws RX7 TX7 12, w ∈ wsX7_readsNumber := by decide +kernel
  have f142 := C.2.2.2.2.1 (.fieldLink RX7 142 "WordAnchorsModel" "at" "I") (by decide +kernel)
  have f26 := C.2.2.2.2.1 (.fieldLink RX7 26 "WordAnchorsModel" "number" "[I") (by decide +kernel)
  subst hat hty
  have hB0 := hB
  obtain ⟨m0, m1, m2, m3, m4, m5, m6, m7, m8⟩ := hB
  have litm1 : ((-1) : Int32).toInt = -1 := rfl
  have lit0 : (0 : Int32).toInt = 0 := rfl
  have lit1 : (1 : Int32).toInt = 1 := rfl
  have lit2 : (2 : Int32).toInt = 2 := rfl
  have lit10 : (10 : Int32).toInt = 10 := rfl
  have lit48 : (48 : Int32).toInt = 48 := rfl
  have lit57 : (57 : Int32).toInt = 57 := rfl
  have tn_a : (nI a).toInt = ((a : Nat) : Int) := nI_toInt (by omega)
  have tn_L : (nI L).toInt = ((L : Nat) : Int) := nI_toInt (by omega)
  have tn_a___2 : (nI (a + 2)).toInt = ((a + 2 : Nat) : Int) := nI_toInt (by omega)
  refine g_aload_n C 0 rfl dX7_readsNumber_0 ?_
  refine g_get C 0 7 7 (by omega) m0 rfl in7 (by decide) f142 (fun _ h9 => h9) rfl dX7_readsNumber_1 ?_
  refine g_istore_n C [(2, .int (nI a)), (0, .ref (adr 0)), (1, .int (nI k))] (by decide) rfl dX7_readsNumber_4 ?_
  refine g_iconst C 0 (by decide) dX7_readsNumber_5 ?_
  refine g_istore_n C [(3, .int 0), (2, .int (nI a)), (0, .ref (adr 0)), (1, .int (nI k))] (by decide) rfl dX7_readsNumber_6 ?_
  have L7 : ∀ (fu i : Nat) (cl : Nat → va_E) , i ≤ 2 → 2 < i + fu → (q0 : cl 0 = .inr (7, [.ref (adr 1), .ref (adr 2), .ref (adr 3), .ref (adr 4), .int st, .ref (adr 5), .int (nI L), .int (nI (a + i)), .int re, .ref (adr 6), .ref (adr 7), .ref (adr 8)])) → (q1 : cl 1 = .inl (kc 0, 90, .inl S)) → (q2 : cl 2 = .inl (kc 0, 360, .inl Wa)) → (q3 : cl 3 = .inl (kc 0, 90, .inl Bg)) → (q4 : cl 4 = .inl (kc 0, 90, .inl As)) → (q5 : cl 5 = .inl (kc 1, 60, .inl tx)) → (q6 : cl 6 = .inl (kc 0, 3, .inl nu)) → (q7 : cl 7 = .inl (kc 0, 40, .inl mo)) → (q8 : cl 8 = .inl (kc 0, 6, .inl sh)) → (hd : ∀ j : Nat, j < i → isD (chF L ch (a + j))) → G Pg l Ev (headSpec wsX7_readsNumber { frames := 1, cells := 0, slots := 0, locals := 22 }).room Sv Mi args below Me Cd D N adr Ar Sv.heap 4 0 0 (MQ below (va_Qi (fun (v : Int32) (cell1 : Nat → va_E) => bI (decide (¬ numC L ch a = 0)) = v ∧ MB cell1 adr kc S Wa Bg As st tx (nI L) (nI (a + numC L ch a)) re (upd nu k (numV L ch a (numC L ch a))) mo sh) (fun (cell1 : Nat → va_E) (t : State) => va_P D vwCl (wld N adr cell1) t.heap) Ar) args Sv 0 0 Ar) cl 7 [(0, .ref (adr 0)), (1, .int (nI k)), (2, .int (nI a)), (3, .int (numV L ch a i))] ([] : List Value) := by
    intro fu
    induction fu with
    | zero => intro i cl  hle hfu; exact absurd hfu (by omega)
    | succ fu ih =>
      intro i cl  hle7 hfu7 q0 q1 q2 q3 q4 q5 q6 q7 q8 hd
      have tn_i : (nI i).toInt = ((i : Nat) : Int) := nI_toInt (by omega)
      have tn_ai : (nI (a + i)).toInt = ((a + i : Nat) : Int) := nI_toInt (by omega)
      refine g_aload_n C 0 rfl dX7_readsNumber_7 ?_
      refine g_Vi C [] 0 7 (by omega) q0 rfl (c_X7_sign l D kc N adr cl S Wa Bg As tx st (nI L) (nI (a + i)) re nu mo sh L ch (a + i)  ⟨q0, q1, q2, q3, q4, q5, q6, q7, q8⟩ (by omega) rfl rfl htx hL60 (by omega)) (cwV 0 C.2.2.2.2.1 gX7_readsNumber_X7_sign rfl rfl rfl (by decide +kernel) ⟨Nat.le_of_ble_eq_true rfl, Nat.le_of_ble_eq_true rfl⟩) rfl rfl (Nat.le_of_ble_eq_true rfl) (Nat.zero_le _) (Nat.zero_le _) dX7_readsNumber_8 (fun v1 cell1 q1 => ?_)
      obtain ⟨rfl, rfl⟩ := q1
      refine g_bipush C 48 (by decide) dX7_readsNumber_11 ?_
      refine g_bipush C 57 (by decide) dX7_readsNumber_13 ?_
      refine g_Si C [.int (sgF L ch (a + i)), .int 48, .int 57] (c_X7_in l D kc N adr cl (sgF L ch (a + i)) 48 57) (va_cwS 3 C.2.2.2.2.1 gX7_readsNumber_X7_in rfl rfl rfl (by decide +kernel) ⟨Nat.le_of_ble_eq_true rfl, Nat.le_of_ble_eq_true rfl⟩) rfl rfl (Nat.le_of_ble_eq_true rfl) (Nat.zero_le _) (Nat.zero_le _) dX7_readsNumber_15 (fun v2 cell2 q2 => ?_)
      obtain ⟨rfl, rfl⟩ := q2
      refine g_if_eq C 57 (by decide) dX7_readsNumber_18 (fun c18 => ?_) (fun c18 => ?_)
      · -- taken at 18
        have c18' := bI_f c18
        refine g_aload_n C 0 rfl dX7_readsNumber_57 ?_
        refine g_get C 0 7 9 (by omega) q0 rfl in7 (by decide) f26 (fun _ h9 => h9) rfl dX7_readsNumber_58 ?_
        refine g_iload_n C 1 rfl dX7_readsNumber_61 ?_
        refine g_iload_n C 3 rfl dX7_readsNumber_62 ?_
        refine g_iast C 6 (by omega) q6 (vp_in_nI (by omega) (by omega)) dX7_readsNumber_63 ?_
        refine g_cell (fun cell3 ec3 => ?_)
        have h_4 : cell3 0 = .inr (7, [.ref (adr 1), .ref (adr 2), .ref (adr 3), .ref (adr 4), .int st, .ref (adr 5), .int (nI L), .int (nI (a + i)), .int re, .ref (adr 6), .ref (adr 7), .ref (adr 8)]) := by rw [ec3, va_up_ne _ _ (by omega)]; exact q0
        have h_5 : cell3 1 = .inl (kc 0, 90, .inl S) := by rw [ec3, va_up_ne _ _ (by omega)]; exact q1
        have h_6 : cell3 2 = .inl (kc 0, 360, .inl Wa) := by rw [ec3, va_up_ne _ _ (by omega)]; exact q2
        have h_7 : cell3 3 = .inl (kc 0, 90, .inl Bg) := by rw [ec3, va_up_ne _ _ (by omega)]; exact q3
        have h_8 : cell3 4 = .inl (kc 0, 90, .inl As) := by rw [ec3, va_up_ne _ _ (by omega)]; exact q4
        have h_9 : cell3 5 = .inl (kc 1, 60, .inl tx) := by rw [ec3, va_up_ne _ _ (by omega)]; exact q5
        have h_10 : cell3 6 = .inl (kc 0, 3, .inl (upd nu (nI k).toNatClampNeg (numV L ch a i))) := by rw [ec3]; exact va_up_self _ _ _
        have h_11 : cell3 7 = .inl (kc 0, 40, .inl mo) := by rw [ec3, va_up_ne _ _ (by omega)]; exact q7
        have h_12 : cell3 8 = .inl (kc 0, 6, .inl sh) := by rw [ec3, va_up_ne _ _ (by omega)]; exact q8
        have h_14 : cell3 6 = .inl (kc 0, 3, .inl (upd nu k (numV L ch a i))) := by rw [h_10, nI_clamp (by omega)]
        refine g_aload_n C 0 rfl dX7_readsNumber_64 ?_
        refine g_get C 0 7 7 (by omega) h_4 rfl in7 (by decide) f142 (fun _ h9 => h9) rfl dX7_readsNumber_65 ?_
        refine g_iload_n C 2 rfl dX7_readsNumber_68 ?_
        refine g_icmp_le C 76 (by decide) dX7_readsNumber_69 (fun c69 => ?_) (fun c69 => ?_)
        · -- taken at 69
          have c69' := i_le c69
          refine g_iconst C 0 (by decide) dX7_readsNumber_76 ?_
          refine g_iret C hr rfl hlk dX7_readsNumber_77 ?_
          have hc : numC L ch a = i := numC_of (by omega) hd (Or.inr (fun h => by have h1 := sg_ch h; rw [h1] at c18'; have h2 := h.1; have h3 := h.2; omega))
          rw [hc]
          exact ⟨bI_0 (by omega), ⟨h_4, h_5, h_6, h_7, h_8, h_9, h_14, h_11, h_12⟩⟩
        · -- not taken at 69
          have c69' := i_nle c69
          refine g_iconst C 1 (by decide) dX7_readsNumber_72 ?_
          refine g_goto C 77 (by decide) dX7_readsNumber_73 ?_
          refine g_iret C hr rfl hlk dX7_readsNumber_77 ?_
          have hc : numC L ch a = i := numC_of (by omega) hd (Or.inr (fun h => by have h1 := sg_ch h; rw [h1] at c18'; have h2 := h.1; have h3 := h.2; omega))
          rw [hc]
          exact ⟨bI_1 (by omega), ⟨h_4, h_5, h_6, h_7, h_8, h_9, h_14, h_11, h_12⟩⟩
      · -- not taken at 18
        have c18' := bI_t c18
        refine g_aload_n C 0 rfl dX7_readsNumber_21 ?_
        refine g_get C 0 7 7 (by omega) q0 rfl in7 (by decide) f142 (fun _ h9 => h9) rfl dX7_readsNumber_22 ?_
        refine g_iload_n C 2 rfl dX7_readsNumber_25 ?_
        refine g_iconst C 2 (by decide) dX7_readsNumber_26 ?_
        refine g_iadd C dX7_readsNumber_27 ?_
        refine g_eqst (st1 := ([.int (nI (a + 2)), .int (nI (a + i))] : List Value)) (congrArg (fun z0 : Int32 => (([.int z0, .int (nI (a + i))] : List Value))) (mI_add a 2)) ?_
        refine g_icmp_ge C 57 (by decide) dX7_readsNumber_28 (fun c28 => ?_) (fun c28 => ?_)
        · -- taken at 28
          have c28' := i_le c28
          refine g_aload_n C 0 rfl dX7_readsNumber_57 ?_
          refine g_get C 0 7 9 (by omega) q0 rfl in7 (by decide) f26 (fun _ h9 => h9) rfl dX7_readsNumber_58 ?_
          refine g_iload_n C 1 rfl dX7_readsNumber_61 ?_
          refine g_iload_n C 3 rfl dX7_readsNumber_62 ?_
          refine g_iast C 6 (by omega) q6 (vp_in_nI (by omega) (by omega)) dX7_readsNumber_63 ?_
          refine g_cell (fun cell15 ec15 => ?_)
          have h_16 : cell15 0 = .inr (7, [.ref (adr 1), .ref (adr 2), .ref (adr 3), .ref (adr 4), .int st, .ref (adr 5), .int (nI L), .int (nI (a + i)), .int re, .ref (adr 6), .ref (adr 7), .ref (adr 8)]) := by rw [ec15, va_up_ne _ _ (by omega)]; exact q0
          have h_17 : cell15 1 = .inl (kc 0, 90, .inl S) := by rw [ec15, va_up_ne _ _ (by omega)]; exact q1
          have h_18 : cell15 2 = .inl (kc 0, 360, .inl Wa) := by rw [ec15, va_up_ne _ _ (by omega)]; exact q2
          have h_19 : cell15 3 = .inl (kc 0, 90, .inl Bg) := by rw [ec15, va_up_ne _ _ (by omega)]; exact q3
          have h_20 : cell15 4 = .inl (kc 0, 90, .inl As) := by rw [ec15, va_up_ne _ _ (by omega)]; exact q4
          have h_21 : cell15 5 = .inl (kc 1, 60, .inl tx) := by rw [ec15, va_up_ne _ _ (by omega)]; exact q5
          have h_22 : cell15 6 = .inl (kc 0, 3, .inl (upd nu (nI k).toNatClampNeg (numV L ch a i))) := by rw [ec15]; exact va_up_self _ _ _
          have h_23 : cell15 7 = .inl (kc 0, 40, .inl mo) := by rw [ec15, va_up_ne _ _ (by omega)]; exact q7
          have h_24 : cell15 8 = .inl (kc 0, 6, .inl sh) := by rw [ec15, va_up_ne _ _ (by omega)]; exact q8
          have h_26 : cell15 6 = .inl (kc 0, 3, .inl (upd nu k (numV L ch a i))) := by rw [h_22, nI_clamp (by omega)]
          refine g_aload_n C 0 rfl dX7_readsNumber_64 ?_
          refine g_get C 0 7 7 (by omega) h_16 rfl in7 (by decide) f142 (fun _ h9 => h9) rfl dX7_readsNumber_65 ?_
          refine g_iload_n C 2 rfl dX7_readsNumber_68 ?_
          refine g_icmp_le C 76 (by decide) dX7_readsNumber_69 (fun c69 => ?_) (fun c69 => ?_)
          · -- taken at 69
            have c69' := i_le c69
            refine g_iconst C 0 (by decide) dX7_readsNumber_76 ?_
            refine g_iret C hr rfl hlk dX7_readsNumber_77 ?_
            have hc : numC L ch a = i := numC_of (by omega) hd (Or.inl (by omega))
            rw [hc]
            exact ⟨bI_0 (by omega), ⟨h_16, h_17, h_18, h_19, h_20, h_21, h_26, h_23, h_24⟩⟩
          · -- not taken at 69
            have c69' := i_nle c69
            refine g_iconst C 1 (by decide) dX7_readsNumber_72 ?_
            refine g_goto C 77 (by decide) dX7_readsNumber_73 ?_
            refine g_iret C hr rfl hlk dX7_readsNumber_77 ?_
            have hc : numC L ch a = i := numC_of (by omega) hd (Or.inl (by omega))
            rw [hc]
            exact ⟨bI_1 (by omega), ⟨h_16, h_17, h_18, h_19, h_20, h_21, h_26, h_23, h_24⟩⟩
        · -- not taken at 28
          have c28' := i_nle c28
          refine g_bipush C 10 (by decide) dX7_readsNumber_31 ?_
          refine g_iload_n C 3 rfl dX7_readsNumber_33 ?_
          refine g_imul C dX7_readsNumber_34 ?_
          refine g_aload_n C 0 rfl dX7_readsNumber_35 ?_
          refine g_Vi C [] 0 7 (by omega) q0 rfl (c_X7_sign l D kc N adr cl S Wa Bg As tx st (nI L) (nI (a + i)) re nu mo sh L ch (a + i)  ⟨q0, q1, q2, q3, q4, q5, q6, q7, q8⟩ (by omega) rfl rfl htx hL60 (by omega)) (cwV 0 C.2.2.2.2.1 gX7_readsNumber_X7_sign rfl rfl rfl (by decide +kernel) ⟨Nat.le_of_ble_eq_true rfl, Nat.le_of_ble_eq_true rfl⟩) rfl rfl (Nat.le_of_ble_eq_true rfl) (Nat.zero_le _) (Nat.zero_le _) dX7_readsNumber_36 (fun v27 cell27 q27 => ?_)
          obtain ⟨rfl, rfl⟩ := q27
          refine g_iadd C dX7_readsNumber_39 ?_
          refine g_bipush C 48 (by decide) dX7_readsNumber_40 ?_
          refine g_isub C dX7_readsNumber_42 ?_
          refine g_istore_n C [(3, .int (((10 * (numV L ch a i)) + (sgF L ch (a + i))) - 48)), (0, .ref (adr 0)), (1, .int (nI k)), (2, .int (nI a))] (by decide) rfl dX7_readsNumber_43 ?_
          refine g_aload_n C 1 rfl dX7_readsNumber_44 ?_
          refine g_dup C rfl dX7_readsNumber_45 ?_
          refine g_get C 0 7 7 (by omega) q0 rfl in7 (by decide) f142 (fun _ h9 => h9) rfl dX7_readsNumber_46 ?_
          refine g_iconst C 1 (by decide) dX7_readsNumber_49 ?_
          refine g_iadd C dX7_readsNumber_50 ?_
          refine g_eqst (show ([.int ((nI (a + i)) + 1), .ref (adr 0)] : List Value) = ([.int (nI (a + (i + 1))), .ref (adr 0)] : List Value) from by rw [nI_1]; rfl) ?_
          refine g_put C 0 7 7 (by omega) q0 rfl in7 tyX7 tyX7_ok nmX7 (by decide) f142 (fun _ h9 => h9) rfl (ty := .int) (by decide +kernel) rfl rfl (Nat.le_of_ble_eq_true rfl) dX7_readsNumber_51 ?_
          refine g_cell (fun cell29 ec29 => ?_)
          have h_30 : cell29 0 = .inr (7, [.ref (adr 1), .ref (adr 2), .ref (adr 3), .ref (adr 4), .int st, .ref (adr 5), .int (nI L), .int (nI (a + (i + 1))), .int re, .ref (adr 6), .ref (adr 7), .ref (adr 8)]) := by rw [ec29]; exact va_up_self _ _ _
          have h_31 : cell29 1 = .inl (kc 0, 90, .inl S) := by rw [ec29, va_up_ne _ _ (by omega)]; exact q1
          have h_32 : cell29 2 = .inl (kc 0, 360, .inl Wa) := by rw [ec29, va_up_ne _ _ (by omega)]; exact q2
          have h_33 : cell29 3 = .inl (kc 0, 90, .inl Bg) := by rw [ec29, va_up_ne _ _ (by omega)]; exact q3
          have h_34 : cell29 4 = .inl (kc 0, 90, .inl As) := by rw [ec29, va_up_ne _ _ (by omega)]; exact q4
          have h_35 : cell29 5 = .inl (kc 1, 60, .inl tx) := by rw [ec29, va_up_ne _ _ (by omega)]; exact q5
          have h_36 : cell29 6 = .inl (kc 0, 3, .inl nu) := by rw [ec29, va_up_ne _ _ (by omega)]; exact q6
          have h_37 : cell29 7 = .inl (kc 0, 40, .inl mo) := by rw [ec29, va_up_ne _ _ (by omega)]; exact q7
          have h_38 : cell29 8 = .inl (kc 0, 6, .inl sh) := by rw [ec29, va_up_ne _ _ (by omega)]; exact q8
          refine g_goto C 7 (by decide) dX7_readsNumber_54 ?_
          have hsc : sgF L ch (a + i) = chF L ch (a + i) := sg_ch2 (by omega)
          have hdi : isD (chF L ch (a + i)) := by rw [← hsc]; exact ⟨by omega, by omega⟩
          refine g_sub [1, 2, 3, 0] rfl ?_
          have ev_40 : ((10 * (numV L ch a i)) + (sgF L ch (a + i))) - 48 = numV L ch a (i + 1) := by rw [hsc]; exact rn_v
          refine g_eqlv (lv1 := [(0, .ref (adr 0)), (1, .int (nI k)), (2, .int (nI a)), (3, .int (numV L ch a (i + 1)))]) (congrArg (fun z0 : Int32 => ([(0, .ref (adr 0)), (1, .int (nI k)), (2, .int (nI a)), (3, .int z0)] : List (Nat × Value))) ev_40) ?_
          exact ih (i + 1) _ (by omega) (by omega) h_30 h_31 h_32 h_33 h_34 h_35 h_36 h_37 h_38 (lt_s hd hdi)
  refine g_sub [2, 3, 1, 0] rfl ?_
  have ev_41 : 0 = numV L ch a 0 := by rfl
  refine g_eqlv (lv1 := [(0, .ref (adr 0)), (1, .int (nI k)), (2, .int (nI a)), (3, .int (numV L ch a 0))]) (congrArg (fun z0 : Int32 => ([(0, .ref (adr 0)), (1, .int (nI k)), (2, .int (nI a)), (3, .int z0)] : List (Nat × Value))) ev_41) ?_
  exact L7 (2 + 1) 0 _ (by omega) (by omega) m0 m1 m2 m3 m4 m5 m6 m7 m8 (fun j hj => absurd hj (Nat.not_lt_zero j))
