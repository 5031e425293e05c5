set_option maxRecDepth 100000 in
set_option maxHeartbeats 4000000 in
theorem c_X7_remembers (l : Launch) (D : va_G) (kc : Nat → ClassId) (N : Nat) (adr : Nat → Nat) (cell : Nat → va_E) (S Wa Bg As tx : Nat → Int32) (st ty at' re : Int32) (nu mo sh : Nat → Int32) (σ : SD) (a : Nat) (P0 : Int32) (hB : MB cell adr kc S Wa Bg As st tx ty at' re nu mo sh) (hN : 9 ≤ N) (hS : MS S σ) (hg1 : σ.1 ≤ 40) (hg2 : σ.2.1 ≤ 6) (ha : a < 6) (hP : S (48 + 7 * a) = P0) : MI l yX7_remembers wsX7_remembers ({ frames := 3, cells := 0, slots := 0, locals := 64 }) D kc N adr cell [.ref (adr 0), .int (nI a)] (fun (v : Int32) (cell1 : Nat → va_E) => nI (cnt (fun j => decide (¬ S (50 + 7 * a + j) = lookF σ.1 σ.2.2.2.1 P0 j)) 5) = v ∧ ∃ S1 : Nat → Int32, MB cell1 adr kc S1 Wa Bg As st tx ty at' re nu mo sh ∧ S1 (49 + 7 * a) = P0 ∧ (∀ j : Nat, j < 5 → S1 (50 + 7 * a + j) = lookF σ.1 σ.2.2.2.1 P0 j) ∧ ∀ j : Nat, (j < 49 + 7 * a ∨ 55 + 7 * a ≤ j) → S1 j = S j) := by
  refine met_i (cc := cX7_remembers) (maxL := 5) (ret := (some .int)) (by decide) rfl (Nat.le_of_ble_eq_true rfl) (lv := [(0, .ref (adr 0)), (1, .int (nI a))]) rfl ?_
  intro Pg Ev Sv Mi args below Me Cd Ar C hr hlk hnm
  have in7 : ∀ w ∈ u_ws RX7 TX7 12, w ∈ wsX7_remembers := by decide +kernel
  have f7 := C.2.2.2.2.1 (.fieldLink RX7 7 "WordAnchorsModel" "s" "[I") (by decide +kernel)
  have hB0 := hB
  obtain ⟨m0, m1, m2, m3, m4, m5, m6, m7, m8⟩ := hB
  have e0 := hS.1
  have e1 := hS.2.1
  have hG : σ.1 ≤ 40 ∧ σ.2.1 ≤ 6 ∧ True := ⟨hg1, hg2, trivial⟩
  have litm1 : ((-1) : Int32).toInt = -1 := rfl
  have lit0 : (0 : Int32).toInt = 0 := rfl
  have lit1 : (1 : Int32).toInt = 1 := rfl
  have lit2 : (2 : Int32).toInt = 2 := rfl
  have lit5 : (5 : Int32).toInt = 5 := rfl
  have lit7 : (7 : Int32).toInt = 7 := rfl
  have lit48 : (48 : Int32).toInt = 48 := rfl
  have tn_a : (nI a).toInt = ((a : Nat) : Int) := nI_toInt (by omega)
  have tn___1 : (nI σ.1).toInt = ((σ.1 : Nat) : Int) := nI_toInt (by omega)
  refine g_iconst C 0 (by decide) dX7_remembers_0 ?_
  refine g_istore_n C [(2, .int 0), (0, .ref (adr 0)), (1, .int (nI a))] (by decide) rfl dX7_remembers_1 ?_
  refine g_iconst C 0 (by decide) dX7_remembers_2 ?_
  refine g_istore_n C [(3, .int 0), (2, .int 0), (0, .ref (adr 0)), (1, .int (nI a))] (by decide) rfl dX7_remembers_3 ?_
  have L4 : ∀ (fu i : Nat) (cl : Nat → va_E) (Sl : Nat → Int32), i ≤ 5 → 5 < i + fu → (q0 : cl 0 = .inr (7, [.ref (adr 1), .ref (adr 2), .ref (adr 3), .ref (adr 4), .int st, .ref (adr 5), .int ty, .int at', .int re, .ref (adr 6), .ref (adr 7), .ref (adr 8)])) → (q1 : cl 1 = .inl (kc 0, 90, .inl Sl)) → (q2 : cl 2 = .inl (kc 0, 360, .inl Wa)) → (q3 : cl 3 = .inl (kc 0, 90, .inl Bg)) → (q4 : cl 4 = .inl (kc 0, 90, .inl As)) → (q5 : cl 5 = .inl (kc 1, 60, .inl tx)) → (q6 : cl 6 = .inl (kc 0, 3, .inl nu)) → (q7 : cl 7 = .inl (kc 0, 40, .inl mo)) → (q8 : cl 8 = .inl (kc 0, 6, .inl sh)) → (hr1 : ∀ j : Nat, j < i → Sl (50 + 7 * a + j) = lookF σ.1 σ.2.2.2.1 P0 j) → (hr2 : ∀ j : Nat, (j < 50 + 7 * a ∨ 50 + 7 * a + i ≤ j) → Sl j = S j) → G Pg l Ev (headSpec wsX7_remembers { frames := 3, cells := 0, slots := 0, locals := 64 }).room Sv Mi args below Me Cd D N adr Ar Sv.heap 5 0 0 (MQ below (va_Qi (fun (v : Int32) (cell1 : Nat → va_E) => nI (cnt (fun j => decide (¬ S (50 + 7 * a + j) = lookF σ.1 σ.2.2.2.1 P0 j)) 5) = v ∧ ∃ S1 : Nat → Int32, MB cell1 adr kc S1 Wa Bg As st tx ty at' re nu mo sh ∧ S1 (49 + 7 * a) = P0 ∧ (∀ j : Nat, j < 5 → S1 (50 + 7 * a + j) = lookF σ.1 σ.2.2.2.1 P0 j) ∧ ∀ j : Nat, (j < 49 + 7 * a ∨ 55 + 7 * a ≤ j) → S1 j = S j) (fun (cell1 : Nat → va_E) (t : State) => va_P D vwCl (wld N adr cell1) t.heap) Ar) args Sv 0 0 Ar) cl 4 [(0, .ref (adr 0)), (1, .int (nI a)), (2, .int (nI (cnt (fun j => decide (¬ S (50 + 7 * a + j) = lookF σ.1 σ.2.2.2.1 P0 j)) i))), (3, .int (nI i))] ([] : List Value) := by
    intro fu
    induction fu with
    | zero => intro i cl Sl hle hfu; exact absurd hfu (by omega)
    | succ fu ih =>
      intro i cl Sl hle4 hfu4 q0 q1 q2 q3 q4 q5 q6 q7 q8 hr1 hr2
      have tn_i : (nI i).toInt = ((i : Nat) : Int) := nI_toInt (by omega)
      refine g_iload_n C 3 rfl dX7_remembers_4 ?_
      refine g_iconst C 5 (by decide) dX7_remembers_5 ?_
      refine g_icmp_ge C 70 (by decide) dX7_remembers_6 (fun c6 => ?_) (fun c6 => ?_)
      · -- taken at 6
        have c6' := i_le c6
        obtain rfl : 5 = i := by omega
        refine g_aload_n C 0 rfl dX7_remembers_70 ?_
        refine g_get C 0 7 0 (by omega) q0 rfl in7 (by decide) f7 (fun _ h9 => h9) rfl dX7_remembers_71 ?_
        refine g_bipush C 48 (by decide) dX7_remembers_74 ?_
        refine g_bipush C 7 (by decide) dX7_remembers_76 ?_
        refine g_iload_n C 1 rfl dX7_remembers_78 ?_
        refine g_imul C dX7_remembers_79 ?_
        refine g_eqst (st1 := ([.int (nI (7 * a)), .int 48, .ref (adr 1)] : List Value)) (congrArg (fun z0 : Int32 => (([.int z0, .int 48, .ref (adr 1)] : List Value))) (mI_mul 7 a)) ?_
        refine g_iadd C dX7_remembers_80 ?_
        refine g_eqst (st1 := ([.int (nI (48 + (7 * a))), .ref (adr 1)] : List Value)) (congrArg (fun z0 : Int32 => (([.int z0, .ref (adr 1)] : List Value))) (mI_add 48 (7 * a))) ?_
        refine g_iconst C 1 (by decide) dX7_remembers_81 ?_
        refine g_iadd C dX7_remembers_82 ?_
        refine g_eqst (st1 := ([.int (nI (48 + (7 * a) + 1)), .ref (adr 1)] : List Value)) (congrArg (fun z0 : Int32 => (([.int z0, .ref (adr 1)] : List Value))) (mI_add (48 + (7 * a)) 1)) ?_
        refine g_aload_n C 0 rfl dX7_remembers_83 ?_
        refine g_iload_n C 1 rfl dX7_remembers_84 ?_
        refine g_iconst C 0 (by decide) dX7_remembers_85 ?_
        refine g_Vi C [.int (nI a), .int 0] 0 7 (by omega) q0 rfl (c_X7_an l D kc N adr cl Sl Wa Bg As tx st ty at' re nu mo sh a 0 ⟨q0, q1, q2, q3, q4, q5, q6, q7, q8⟩ (by omega) (by omega)) (cwV 2 C.2.2.2.2.1 gX7_remembers_X7_an rfl rfl rfl (by decide +kernel) ⟨Nat.le_of_ble_eq_true rfl, Nat.le_of_ble_eq_true rfl⟩) rfl rfl (Nat.le_of_ble_eq_true rfl) (Nat.zero_le _) (Nat.zero_le _) dX7_remembers_86 (fun v1 cell1 q1 => ?_)
        obtain ⟨rfl, rfl⟩ := q1
        refine g_eqst (st1 := ([.int P0, .int (nI (48 + (7 * a) + 1)), .ref (adr 1)] : List Value)) (by rw [show Sl (48 + 7 * a + 0) = P0 from (hr2 _ (by omega)).trans hP]) ?_
        refine g_iast C 1 (by omega) q1 (vp_in_nI (by omega) (by omega)) dX7_remembers_89 ?_
        refine g_cell (fun cell3 ec3 => ?_)
        have h_4 : cell3 0 = .inr (7, [.ref (adr 1), .ref (adr 2), .ref (adr 3), .ref (adr 4), .int st, .ref (adr 5), .int ty, .int at', .int re, .ref (adr 6), .ref (adr 7), .ref (adr 8)]) := by rw [ec3, va_up_ne _ _ (by omega)]; exact q0
        have h_5 : cell3 1 = .inl (kc 0, 90, .inl (upd Sl (nI (48 + (7 * a) + 1)).toNatClampNeg P0)) := by rw [ec3]; exact va_up_self _ _ _
        have h_6 : cell3 2 = .inl (kc 0, 360, .inl Wa) := by rw [ec3, va_up_ne _ _ (by omega)]; exact q2
        have h_7 : cell3 3 = .inl (kc 0, 90, .inl Bg) := by rw [ec3, va_up_ne _ _ (by omega)]; exact q3
        have h_8 : cell3 4 = .inl (kc 0, 90, .inl As) := by rw [ec3, va_up_ne _ _ (by omega)]; exact q4
        have h_9 : cell3 5 = .inl (kc 1, 60, .inl tx) := by rw [ec3, va_up_ne _ _ (by omega)]; exact q5
        have h_10 : cell3 6 = .inl (kc 0, 3, .inl nu) := by rw [ec3, va_up_ne _ _ (by omega)]; exact q6
        have h_11 : cell3 7 = .inl (kc 0, 40, .inl mo) := by rw [ec3, va_up_ne _ _ (by omega)]; exact q7
        have h_12 : cell3 8 = .inl (kc 0, 6, .inl sh) := by rw [ec3, va_up_ne _ _ (by omega)]; exact q8
        have h_14 : cell3 1 = .inl (kc 0, 90, .inl (upd Sl (48 + (7 * a) + 1) P0)) := by rw [h_5, nI_clamp (by omega)]
        refine g_iload_n C 2 rfl dX7_remembers_90 ?_
        refine g_iret C hr rfl hlk dX7_remembers_91 ?_
        exact ⟨rfl, _, ⟨h_4, h_14, h_6, h_7, h_8, h_9, h_10, h_11, h_12⟩, (by rw [show 49 + 7 * a = 48 + (7 * a) + 1 by omega, upd_s]), fun j hj => by rw [upd_n (by omega)]; exact hr1 j hj, fun j hj => by rw [upd_n (by omega)]; exact hr2 j (by omega)⟩
      · -- not taken at 6
        have c6' := i_nle c6
        refine g_aload_n C 0 rfl dX7_remembers_9 ?_
        refine g_aload_n C 0 rfl dX7_remembers_10 ?_
        refine g_iload_n C 1 rfl dX7_remembers_11 ?_
        refine g_iconst C 0 (by decide) dX7_remembers_12 ?_
        refine g_Vi C [.int (nI a), .int 0] 0 7 (by omega) q0 rfl (c_X7_an l D kc N adr cl Sl Wa Bg As tx st ty at' re nu mo sh a 0 ⟨q0, q1, q2, q3, q4, q5, q6, q7, q8⟩ (by omega) (by omega)) (cwV 2 C.2.2.2.2.1 gX7_remembers_X7_an rfl rfl rfl (by decide +kernel) ⟨Nat.le_of_ble_eq_true rfl, Nat.le_of_ble_eq_true rfl⟩) rfl rfl (Nat.le_of_ble_eq_true rfl) (Nat.zero_le _) (Nat.zero_le _) dX7_remembers_13 (fun v15 cell15 q15 => ?_)
        obtain ⟨rfl, rfl⟩ := q15
        refine g_eqst (st1 := ([.int P0, .ref (adr 0)] : List Value)) (by rw [show Sl (48 + 7 * a + 0) = P0 from (hr2 _ (by omega)).trans hP]) ?_
        refine g_iload_n C 3 rfl dX7_remembers_16 ?_
        refine g_iadd C dX7_remembers_17 ?_
        refine g_iconst C 2 (by decide) dX7_remembers_18 ?_
        refine g_isub C dX7_remembers_19 ?_
        refine g_Vi C [.int ((P0 + (nI i)) - 2)] 0 7 (by omega) q0 rfl (c_X7_word l D kc N adr cl Sl Wa Bg As tx st ty at' re nu mo sh (rmS σ Sl) ((P0 + (nI i)) - 2) ⟨q0, q1, q2, q3, q4, q5, q6, q7, q8⟩ (by omega) (rmS_ok hS hg1 (fun j hj => hr2 j (by omega))) hg1 hg2) (cwV 1 C.2.2.2.2.1 gX7_remembers_X7_word rfl rfl rfl (by decide +kernel) ⟨Nat.le_of_ble_eq_true rfl, Nat.le_of_ble_eq_true rfl⟩) rfl rfl (Nat.le_of_ble_eq_true rfl) (Nat.zero_le _) (Nat.zero_le _) dX7_remembers_20 (fun v17 cell17 q17 => ?_)
        obtain ⟨rfl, rfl⟩ := q17
        refine g_istore C [(4, .int (lookF σ.1 σ.2.2.2.1 P0 i)), (0, .ref (adr 0)), (1, .int (nI a)), (2, .int (nI (cnt (fun j => decide (¬ S (50 + 7 * a + j) = lookF σ.1 σ.2.2.2.1 P0 j)) i))), (3, .int (nI i))] (by decide) rfl dX7_remembers_23 ?_
        refine g_iload_n C 3 rfl dX7_remembers_25 ?_
        refine g_iload C 0 rfl dX7_remembers_26 ?_
        refine g_aload_n C 1 rfl dX7_remembers_28 ?_
        refine g_iload_n C 2 rfl dX7_remembers_29 ?_
        refine g_iconst C 2 (by decide) dX7_remembers_30 ?_
        refine g_iload_n C 4 rfl dX7_remembers_31 ?_
        refine g_iadd C dX7_remembers_32 ?_
        refine g_eqst (st1 := ([.int (nI (2 + i)), .int (nI a), .ref (adr 0), .int (lookF σ.1 σ.2.2.2.1 P0 i), .int (nI (cnt (fun j => decide (¬ S (50 + 7 * a + j) = lookF σ.1 σ.2.2.2.1 P0 j)) i))] : List Value)) (congrArg (fun z0 : Int32 => (([.int z0, .int (nI a), .ref (adr 0), .int (lookF σ.1 σ.2.2.2.1 P0 i), .int (nI (cnt (fun j => decide (¬ S (50 + 7 * a + j) = lookF σ.1 σ.2.2.2.1 P0 j)) i))] : List Value))) (mI_add 2 i)) ?_
        refine g_Vi C [.int (nI a), .int (nI (2 + i))] 0 7 (by omega) q0 rfl (c_X7_an l D kc N adr cl Sl Wa Bg As tx st ty at' re nu mo sh a (2 + i) ⟨q0, q1, q2, q3, q4, q5, q6, q7, q8⟩ (by omega) (by omega)) (cwV 2 C.2.2.2.2.1 gX7_remembers_X7_an rfl rfl rfl (by decide +kernel) ⟨Nat.le_of_ble_eq_true rfl, Nat.le_of_ble_eq_true rfl⟩) rfl rfl (Nat.le_of_ble_eq_true rfl) (Nat.zero_le _) (Nat.zero_le _) dX7_remembers_33 (fun v18 cell18 q18 => ?_)
        obtain ⟨rfl, rfl⟩ := q18
        refine g_eqst (st1 := ([.int (S (50 + 7 * a + i)), .int (lookF σ.1 σ.2.2.2.1 P0 i), .int (nI (cnt (fun j => decide (¬ S (50 + 7 * a + j) = lookF σ.1 σ.2.2.2.1 P0 j)) i))] : List Value)) (by rw [show Sl (48 + 7 * a + (2 + i)) = S (50 + 7 * a + i) from (congrArg Sl (by omega : 48 + 7 * a + (2 + i) = 50 + 7 * a + i)).trans (hr2 _ (by omega))]) ?_
        refine g_icmp_eq C 43 (by decide) dX7_remembers_36 (fun c36 => ?_) (fun c36 => ?_)
        · -- taken at 36
          have c36' := i_eq c36
          refine g_iconst C 0 (by decide) dX7_remembers_43 ?_
          refine g_iadd C dX7_remembers_44 ?_
          refine g_eqst (st1 := ([.int (nI (cnt (fun j => decide (¬ S (50 + 7 * a + j) = lookF σ.1 σ.2.2.2.1 P0 j)) i + 0))] : List Value)) (congrArg (fun z0 : Int32 => (([.int z0] : List Value))) (mI_add (cnt (fun j => decide (¬ S (50 + 7 * a + j) = lookF σ.1 σ.2.2.2.1 P0 j)) i) 0)) ?_
          refine g_istore_n C [(2, .int (nI (cnt (fun j => decide (¬ S (50 + 7 * a + j) = lookF σ.1 σ.2.2.2.1 P0 j)) i + 0))), (4, .int (lookF σ.1 σ.2.2.2.1 P0 i)), (0, .ref (adr 0)), (1, .int (nI a)), (3, .int (nI i))] (by decide) rfl dX7_remembers_45 ?_
          refine g_aload_n C 2 rfl dX7_remembers_46 ?_
          refine g_get C 0 7 0 (by omega) q0 rfl in7 (by decide) f7 (fun _ h9 => h9) rfl dX7_remembers_47 ?_
          refine g_bipush C 48 (by decide) dX7_remembers_50 ?_
          refine g_bipush C 7 (by decide) dX7_remembers_52 ?_
          refine g_iload_n C 3 rfl dX7_remembers_54 ?_
          refine g_imul C dX7_remembers_55 ?_
          refine g_eqst (st1 := ([.int (nI (7 * a)), .int 48, .ref (adr 1)] : List Value)) (congrArg (fun z0 : Int32 => (([.int z0, .int 48, .ref (adr 1)] : List Value))) (mI_mul 7 a)) ?_
          refine g_iadd C dX7_remembers_56 ?_
          refine g_eqst (st1 := ([.int (nI (48 + (7 * a))), .ref (adr 1)] : List Value)) (congrArg (fun z0 : Int32 => (([.int z0, .ref (adr 1)] : List Value))) (mI_add 48 (7 * a))) ?_
          refine g_iconst C 2 (by decide) dX7_remembers_57 ?_
          refine g_iadd C dX7_remembers_58 ?_
          refine g_eqst (st1 := ([.int (nI (48 + (7 * a) + 2)), .ref (adr 1)] : List Value)) (congrArg (fun z0 : Int32 => (([.int z0, .ref (adr 1)] : List Value))) (mI_add (48 + (7 * a)) 2)) ?_
          refine g_iload_n C 4 rfl dX7_remembers_59 ?_
          refine g_iadd C dX7_remembers_60 ?_
          refine g_eqst (st1 := ([.int (nI (48 + (7 * a) + 2 + i)), .ref (adr 1)] : List Value)) (congrArg (fun z0 : Int32 => (([.int z0, .ref (adr 1)] : List Value))) (mI_add (48 + (7 * a) + 2) i)) ?_
          refine g_iload C 1 rfl dX7_remembers_61 ?_
          refine g_iast C 1 (by omega) q1 (vp_in_nI (by omega) (by omega)) dX7_remembers_63 ?_
          refine g_cell (fun cell20 ec20 => ?_)
          have h_21 : cell20 0 = .inr (7, [.ref (adr 1), .ref (adr 2), .ref (adr 3), .ref (adr 4), .int st, .ref (adr 5), .int ty, .int at', .int re, .ref (adr 6), .ref (adr 7), .ref (adr 8)]) := by rw [ec20, va_up_ne _ _ (by omega)]; exact q0
          have h_22 : cell20 1 = .inl (kc 0, 90, .inl (upd Sl (nI (48 + (7 * a) + 2 + i)).toNatClampNeg (lookF σ.1 σ.2.2.2.1 P0 i))) := by rw [ec20]; exact va_up_self _ _ _
          have h_23 : cell20 2 = .inl (kc 0, 360, .inl Wa) := by rw [ec20, va_up_ne _ _ (by omega)]; exact q2
          have h_24 : cell20 3 = .inl (kc 0, 90, .inl Bg) := by rw [ec20, va_up_ne _ _ (by omega)]; exact q3
          have h_25 : cell20 4 = .inl (kc 0, 90, .inl As) := by rw [ec20, va_up_ne _ _ (by omega)]; exact q4
          have h_26 : cell20 5 = .inl (kc 1, 60, .inl tx) := by rw [ec20, va_up_ne _ _ (by omega)]; exact q5
          have h_27 : cell20 6 = .inl (kc 0, 3, .inl nu) := by rw [ec20, va_up_ne _ _ (by omega)]; exact q6
          have h_28 : cell20 7 = .inl (kc 0, 40, .inl mo) := by rw [ec20, va_up_ne _ _ (by omega)]; exact q7
          have h_29 : cell20 8 = .inl (kc 0, 6, .inl sh) := by rw [ec20, va_up_ne _ _ (by omega)]; exact q8
          have h_31 : cell20 1 = .inl (kc 0, 90, .inl (upd Sl (48 + (7 * a) + 2 + i) (lookF σ.1 σ.2.2.2.1 P0 i))) := by rw [h_22, nI_clamp (by omega)]
          refine g_iinc C 4 [(3, .int (nI (i + 1))), (2, .int (nI (cnt (fun j => decide (¬ S (50 + 7 * a + j) = lookF σ.1 σ.2.2.2.1 P0 j)) i + 0))), (4, .int (lookF σ.1 σ.2.2.2.1 P0 i)), (0, .ref (adr 0)), (1, .int (nI a))] rfl (iinc_nI i) (by decide) rfl dX7_remembers_64 ?_
          refine g_goto C 4 (by decide) dX7_remembers_67 ?_
          have hb1 : ∀ j : Nat, j < i + 1 → (upd Sl (48 + (7 * a) + 2 + i) (lookF σ.1 σ.2.2.2.1 P0 i)) (50 + 7 * a + j) = lookF σ.1 σ.2.2.2.1 P0 j := fun j hj => by
            by_cases e : j = i
            · rw [e, show 50 + 7 * a + i = 48 + (7 * a) + 2 + i by omega, upd_s]
            · rw [upd_n (by omega)]; exact hr1 j (by omega)
          have hb2 : ∀ j : Nat, (j < 50 + 7 * a ∨ 50 + 7 * a + (i + 1) ≤ j) → (upd Sl (48 + (7 * a) + 2 + i) (lookF σ.1 σ.2.2.2.1 P0 i)) j = S j := fun j hj => by
            rw [upd_n (by omega)]; exact hr2 j (by omega)
          have hbc : nI (cnt (fun j => decide (¬ S (50 + 7 * a + j) = lookF σ.1 σ.2.2.2.1 P0 j)) i + 0) = nI (cnt (fun j => decide (¬ S (50 + 7 * a + j) = lookF σ.1 σ.2.2.2.1 P0 j)) (i + 1)) := cnt_no (by rw [decide_eq_true_eq]; exact fun h => h c36.symm)
          refine g_sub [3, 4, 1, 0] rfl ?_
          have ev_32 : nI (cnt (fun j => decide (¬ S (50 + 7 * a + j) = lookF σ.1 σ.2.2.2.1 P0 j)) i + 0) = nI (cnt (fun j => decide (¬ S (50 + 7 * a + j) = lookF σ.1 σ.2.2.2.1 P0 j)) (i + 1)) := by exact hbc
          refine g_eqlv (lv1 := [(0, .ref (adr 0)), (1, .int (nI a)), (2, .int (nI (cnt (fun j => decide (¬ S (50 + 7 * a + j) = lookF σ.1 σ.2.2.2.1 P0 j)) (i + 1)))), (3, .int (nI (i + 1)))]) (congrArg (fun z0 : Int32 => ([(0, .ref (adr 0)), (1, .int (nI a)), (2, .int z0), (3, .int (nI (i + 1)))] : List (Nat × Value))) ev_32) ?_
          exact ih (i + 1) _ _ (by omega) (by omega) h_21 h_31 h_23 h_24 h_25 h_26 h_27 h_28 h_29 hb1 hb2
        · -- not taken at 36
          have c36' := i_ne c36
          refine g_iconst C 1 (by decide) dX7_remembers_39 ?_
          refine g_goto C 44 (by decide) dX7_remembers_40 ?_
          refine g_iadd C dX7_remembers_44 ?_
          refine g_eqst (st1 := ([.int (nI (cnt (fun j => decide (¬ S (50 + 7 * a + j) = lookF σ.1 σ.2.2.2.1 P0 j)) i + 1))] : List Value)) (congrArg (fun z0 : Int32 => (([.int z0] : List Value))) (mI_add (cnt (fun j => decide (¬ S (50 + 7 * a + j) = lookF σ.1 σ.2.2.2.1 P0 j)) i) 1)) ?_
          refine g_istore_n C [(2, .int (nI (cnt (fun j => decide (¬ S (50 + 7 * a + j) = lookF σ.1 σ.2.2.2.1 P0 j)) i + 1))), (4, .int (lookF σ.1 σ.2.2.2.1 P0 i)), (0, .ref (adr 0)), (1, .int (nI a)), (3, .int (nI i))] (by decide) rfl dX7_remembers_45 ?_
          refine g_aload_n C 2 rfl dX7_remembers_46 ?_
          refine g_get C 0 7 0 (by omega) q0 rfl in7 (by decide) f7 (fun _ h9 => h9) rfl dX7_remembers_47 ?_
          refine g_bipush C 48 (by decide) dX7_remembers_50 ?_
          refine g_bipush C 7 (by decide) dX7_remembers_52 ?_
          refine g_iload_n C 3 rfl dX7_remembers_54 ?_
          refine g_imul C dX7_remembers_55 ?_
          refine g_eqst (st1 := ([.int (nI (7 * a)), .int 48, .ref (adr 1)] : List Value)) (congrArg (fun z0 : Int32 => (([.int z0, .int 48, .ref (adr 1)] : List Value))) (mI_mul 7 a)) ?_
          refine g_iadd C dX7_remembers_56 ?_
          refine g_eqst (st1 := ([.int (nI (48 + (7 * a))), .ref (adr 1)] : List Value)) (congrArg (fun z0 : Int32 => (([.int z0, .ref (adr 1)] : List Value))) (mI_add 48 (7 * a))) ?_
          refine g_iconst C 2 (by decide) dX7_remembers_57 ?_
          refine g_iadd C dX7_remembers_58 ?_
          refine g_eqst (st1 := ([.int (nI (48 + (7 * a) + 2)), .ref (adr 1)] : List Value)) (congrArg (fun z0 : Int32 => (([.int z0, .ref (adr 1)] : List Value))) (mI_add (48 + (7 * a)) 2)) ?_
          refine g_iload_n C 4 rfl dX7_remembers_59 ?_
          refine g_iadd C dX7_remembers_60 ?_
          refine g_eqst (st1 := ([.int (nI (48 + (7 * a) + 2 + i)), .ref (adr 1)] : List Value)) (congrArg (fun z0 : Int32 => (([.int z0, .ref (adr 1)] : List Value))) (mI_add (48 + (7 * a) + 2) i)) ?_
          refine g_iload C 1 rfl dX7_remembers_61 ?_
          refine g_iast C 1 (by omega) q1 (vp_in_nI (by omega) (by omega)) dX7_remembers_63 ?_
          refine g_cell (fun cell33 ec33 => ?_)
          have h_34 : cell33 0 = .inr (7, [.ref (adr 1), .ref (adr 2), .ref (adr 3), .ref (adr 4), .int st, .ref (adr 5), .int ty, .int at', .int re, .ref (adr 6), .ref (adr 7), .ref (adr 8)]) := by rw [ec33, va_up_ne _ _ (by omega)]; exact q0
          have h_35 : cell33 1 = .inl (kc 0, 90, .inl (upd Sl (nI (48 + (7 * a) + 2 + i)).toNatClampNeg (lookF σ.1 σ.2.2.2.1 P0 i))) := by rw [ec33]; exact va_up_self _ _ _
          have h_36 : cell33 2 = .inl (kc 0, 360, .inl Wa) := by rw [ec33, va_up_ne _ _ (by omega)]; exact q2
          have h_37 : cell33 3 = .inl (kc 0, 90, .inl Bg) := by rw [ec33, va_up_ne _ _ (by omega)]; exact q3
          have h_38 : cell33 4 = .inl (kc 0, 90, .inl As) := by rw [ec33, va_up_ne _ _ (by omega)]; exact q4
          have h_39 : cell33 5 = .inl (kc 1, 60, .inl tx) := by rw [ec33, va_up_ne _ _ (by omega)]; exact q5
          have h_40 : cell33 6 = .inl (kc 0, 3, .inl nu) := by rw [ec33, va_up_ne _ _ (by omega)]; exact q6
          have h_41 : cell33 7 = .inl (kc 0, 40, .inl mo) := by rw [ec33, va_up_ne _ _ (by omega)]; exact q7
          have h_42 : cell33 8 = .inl (kc 0, 6, .inl sh) := by rw [ec33, va_up_ne _ _ (by omega)]; exact q8
          have h_44 : cell33 1 = .inl (kc 0, 90, .inl (upd Sl (48 + (7 * a) + 2 + i) (lookF σ.1 σ.2.2.2.1 P0 i))) := by rw [h_35, nI_clamp (by omega)]
          refine g_iinc C 4 [(3, .int (nI (i + 1))), (2, .int (nI (cnt (fun j => decide (¬ S (50 + 7 * a + j) = lookF σ.1 σ.2.2.2.1 P0 j)) i + 1))), (4, .int (lookF σ.1 σ.2.2.2.1 P0 i)), (0, .ref (adr 0)), (1, .int (nI a))] rfl (iinc_nI i) (by decide) rfl dX7_remembers_64 ?_
          refine g_goto C 4 (by decide) dX7_remembers_67 ?_
          have hb1 : ∀ j : Nat, j < i + 1 → (upd Sl (48 + (7 * a) + 2 + i) (lookF σ.1 σ.2.2.2.1 P0 i)) (50 + 7 * a + j) = lookF σ.1 σ.2.2.2.1 P0 j := fun j hj => by
            by_cases e : j = i
            · rw [e, show 50 + 7 * a + i = 48 + (7 * a) + 2 + i by omega, upd_s]
            · rw [upd_n (by omega)]; exact hr1 j (by omega)
          have hb2 : ∀ j : Nat, (j < 50 + 7 * a ∨ 50 + 7 * a + (i + 1) ≤ j) → (upd Sl (48 + (7 * a) + 2 + i) (lookF σ.1 σ.2.2.2.1 P0 i)) j = S j := fun j hj => by
            rw [upd_n (by omega)]; exact hr2 j (by omega)
          have hbc : nI (cnt (fun j => decide (¬ S (50 + 7 * a + j) = lookF σ.1 σ.2.2.2.1 P0 j)) i + 1) = nI (cnt (fun j => decide (¬ S (50 + 7 * a + j) = lookF σ.1 σ.2.2.2.1 P0 j)) (i + 1)) := cnt_yes (decide_eq_true (fun h => c36 h.symm))
          refine g_sub [3, 4, 1, 0] rfl ?_
          have ev_45 : nI (cnt (fun j => decide (¬ S (50 + 7 * a + j) = lookF σ.1 σ.2.2.2.1 P0 j)) i + 1) = nI (cnt (fun j => decide (¬ S (50 + 7 * a + j) = lookF σ.1 σ.2.2.2.1 P0 j)) (i + 1)) := by exact hbc
          refine g_eqlv (lv1 := [(0, .ref (adr 0)), (1, .int (nI a)), (2, .int (nI (cnt (fun j => decide (¬ S (50 + 7 * a + j) = lookF σ.1 σ.2.2.2.1 P0 j)) (i + 1)))), (3, .int (nI (i + 1)))]) (congrArg (fun z0 : Int32 => ([(0, .ref (adr 0)), (1, .int (nI a)), (2, .int z0), (3, .int (nI (i + 1)))] : List (Nat × Value))) ev_45) ?_
          exact ih (i + 1) _ _ (by omega) (by omega) h_34 h_44 h_36 h_37 h_38 h_39 h_40 h_41 h_42 hb1 hb2
  refine g_sub [2, 3, 1, 0] rfl ?_
  have ev_46 : 0 = nI (cnt (fun j => decide (¬ S (50 + 7 * a + j) = lookF σ.1 σ.2.2.2.1 P0 j)) 0) := by rfl
  refine g_eqlv (lv1 := [(0, .ref (adr 0)), (1, .int (nI a)), (2, .int (nI (cnt (fun j => decide (¬ S (50 + 7 * a + j) = lookF σ.1 σ.2.2.2.1 P0 j)) 0))), (3, .int 0)]) (congrArg (fun z0 : Int32 => ([(0, .ref (adr 0)), (1, .int (nI a)), (2, .int z0), (3, .int 0)] : List (Nat × Value))) ev_46) ?_
  exact L4 (5 + 1) 0 _ _ (by omega) (by omega) m0 m1 m2 m3 m4 m5 m6 m7 m8 (fun j hj => absurd hj (Nat.not_lt_zero j)) (fun j hj => rfl)
set_option maxRecDepth 100000 in
set_option maxHeartbeats 4000000 in
theorem c_X7_acted (l : Launch) (D : va_G) (kc : Nat → ClassId) (N : Nat) (adr : Nat → Nat) (cell : Nat → va_E) (S Wa Bg As tx : Nat → Int32) (st ty at' re : Int32) (nu mo sh : Nat → Int32) (r : Int32) (hn : Nat) (hB : MB cell adr kc S Wa Bg As st tx ty at' re nu mo sh) (hN : 9 ≤ N) (hst : st = nI hn) (h4 : hn ≤ 4) : MI l yX7_acted wsX7_acted ({ frames := 0, cells := 0, slots := 0, locals := 0 }) D kc N adr cell [.ref (adr 0), .int r] (fun (v : Int32) (cell1 : Nat → va_E) => r = v ∧ ∃ Wa1 : Nat → Int32, MB cell1 adr kc S Wa1 Bg As (nI (acN r hn)) tx ty at' re nu mo sh ∧ (-1000001 < r.toInt → ∀ j : Nat, j < 90 * rcN hn → Wa1 j = acW hn Wa Bg j) ∧ (¬ -1000001 < r.toInt → Wa1 = Wa)) := by
  refine met_i (cc := cX7_acted) (maxL := 3) (ret := (some .int)) (by decide) rfl (Nat.le_of_ble_eq_true rfl) (lv := [(0, .ref (adr 0)), (1, .int r)]) rfl ?_
  intro Pg Ev Sv Mi args below Me Cd Ar C hr hlk hnm
  have in7 : ∀ w ∈ u_ws RX7 TX7 12, w ∈ wsX7_acted := by decide +kernel
  have k43 := C.2.2.2.2.1 (.constant RX7 43 (-1000001)) (by decide +kernel)
  have f44 := C.2.2.2.2.1 (.fieldLink RX7 44 "WordAnchorsModel" "states" "I") (by decide +kernel)
  have f13 := C.2.2.2.2.1 (.fieldLink RX7 13 "WordAnchorsModel" "was" "[I") (by decide +kernel)
  have f16 := C.2.2.2.2.1 (.fieldLink RX7 16 "WordAnchorsModel" "begun" "[I") (by decide +kernel)
  subst hst
  have hB0 := hB
  obtain ⟨m0, m1, m2, m3, m4, m5, m6, m7, m8⟩ := hB
  have litm1000001 : ((-1000001) : Int32).toInt = -1000001 := rfl
  have litm1 : ((-1) : Int32).toInt = -1 := rfl
  have lit0 : (0 : Int32).toInt = 0 := rfl
  have lit1 : (1 : Int32).toInt = 1 := rfl
  have lit4 : (4 : Int32).toInt = 4 := rfl
  have lit90 : (90 : Int32).toInt = 90 := rfl
  have lit270 : (270 : Int32).toInt = 270 := rfl
  have tn_hn : (nI hn).toInt = ((hn : Nat) : Int) := nI_toInt (by omega)
  refine g_iload_n C 1 rfl dX7_acted_0 ?_
  refine g_ldc C (-1000001) k43 dX7_acted_1 ?_
  refine g_icmp_le C 98 (by decide) dX7_acted_3 (fun c3 => ?_) (fun c3 => ?_)
  · -- taken at 3
    have c3' := i_le c3
    refine g_iload_n C 1 rfl dX7_acted_98 ?_
    refine g_iret C hr rfl hlk dX7_acted_99 ?_
    exact ⟨rfl, Wa, by rw [show acN r hn = hn from if_neg (by omega)]; exact ⟨m0, m1, m2, m3, m4, m5, m6, m7, m8⟩, fun h => absurd h (by omega), fun _ => rfl⟩
  · -- not taken at 3
    have c3' := i_nle c3
    refine g_aload_n C 0 rfl dX7_acted_6 ?_
    refine g_get C 0 7 4 (by omega) m0 rfl in7 (by decide) f44 (fun _ h9 => h9) rfl dX7_acted_7 ?_
    refine g_iconst C 4 (by decide) dX7_acted_10 ?_
    refine g_icmp_ne C 54 (by decide) dX7_acted_11 (fun c11 => ?_) (fun c11 => ?_)
    · -- taken at 11
      have c11' := i_ne c11
      refine g_iconst C 0 (by decide) dX7_acted_54 ?_
      refine g_istore_n C [(2, .int 0), (0, .ref (adr 0)), (1, .int r)] (by decide) rfl dX7_acted_55 ?_
      have L56 : ∀ (fu k2 : Nat) (cm : Nat → va_E) (h2 : Nat) (Wb Wm : Nat → Int32), k2 ≤ 90 → 90 < k2 + fu → (u0 : cm 0 = .inr (7, [.ref (adr 1), .ref (adr 2), .ref (adr 3), .ref (adr 4), .int (nI h2), .ref (adr 5), .int ty, .int at', .int re, .ref (adr 6), .ref (adr 7), .ref (adr 8)])) → (u1 : cm 1 = .inl (kc 0, 90, .inl S)) → (u2 : cm 2 = .inl (kc 0, 360, .inl Wm)) → (u3 : cm 3 = .inl (kc 0, 90, .inl Bg)) → (u4 : cm 4 = .inl (kc 0, 90, .inl As)) → (u5 : cm 5 = .inl (kc 1, 60, .inl tx)) → (u6 : cm 6 = .inl (kc 0, 3, .inl nu)) → (u7 : cm 7 = .inl (kc 0, 40, .inl mo)) → (u8 : cm 8 = .inl (kc 0, 6, .inl sh)) → (hh2 : h2 = rcN hn - 1 ∧ h2 ≤ 3) → (hwb : ∀ j : Nat, j < 90 * h2 → Wb j = if hn < 4 then Wa j else Wa (j + 90)) → (hwm : ∀ j : Nat, Wm j = if 90 * h2 ≤ j ∧ j < 90 * h2 + k2 then Bg (j - 90 * h2) else Wb j) → G Pg l Ev (headSpec wsX7_acted { frames := 0, cells := 0, slots := 0, locals := 0 }).room Sv Mi args below Me Cd D N adr Ar Sv.heap 3 0 0 (MQ below (va_Qi (fun (v : Int32) (cell1 : Nat → va_E) => r = v ∧ ∃ Wa1 : Nat → Int32, MB cell1 adr kc S Wa1 Bg As (nI (acN r hn)) tx ty at' re nu mo sh ∧ (-1000001 < r.toInt → ∀ j : Nat, j < 90 * rcN hn → Wa1 j = acW hn Wa Bg j) ∧ (¬ -1000001 < r.toInt → Wa1 = Wa)) (fun (cell1 : Nat → va_E) (t : State) => va_P D vwCl (wld N adr cell1) t.heap) Ar) args Sv 0 0 Ar) cm 56 [(0, .ref (adr 0)), (1, .int r), (2, .int (nI k2))] ([] : List Value) := by
        intro fu
        induction fu with
        | zero => intro k2 cm h2 Wb Wm hle hfu; exact absurd hfu (by omega)
        | succ fu ih =>
          intro k2 cm h2 Wb Wm hle56 hfu56 u0 u1 u2 u3 u4 u5 u6 u7 u8 hh2 hwb hwm
          have tn_k2 : (nI k2).toInt = ((k2 : Nat) : Int) := nI_toInt (by omega)
          have hh3 := hh2.2
          refine g_iload_n C 2 rfl dX7_acted_56 ?_
          refine g_bipush C 90 (by decide) dX7_acted_57 ?_
          refine g_icmp_ge C 88 (by decide) dX7_acted_59 (fun c59 => ?_) (fun c59 => ?_)
          · -- taken at 59
            have c59' := i_le c59
            obtain rfl : 90 = k2 := by omega
            refine g_aload_n C 0 rfl dX7_acted_88 ?_
            refine g_dup C rfl dX7_acted_89 ?_
            refine g_get C 0 7 4 (by omega) u0 rfl in7 (by decide) f44 (fun _ h9 => h9) rfl dX7_acted_90 ?_
            refine g_iconst C 1 (by decide) dX7_acted_93 ?_
            refine g_iadd C dX7_acted_94 ?_
            refine g_eqst (st1 := ([.int (nI (h2 + 1)), .ref (adr 0)] : List Value)) (congrArg (fun z0 : Int32 => (([.int z0, .ref (adr 0)] : List Value))) (mI_add h2 1)) ?_
            refine g_put C 0 7 4 (by omega) u0 rfl in7 tyX7 tyX7_ok nmX7 (by decide) f44 (fun _ h9 => h9) rfl (ty := .int) (by decide +kernel) rfl rfl (Nat.le_of_ble_eq_true rfl) dX7_acted_95 ?_
            refine g_cell (fun cell1 ec1 => ?_)
            have h_2 : cell1 0 = .inr (7, [.ref (adr 1), .ref (adr 2), .ref (adr 3), .ref (adr 4), .int (nI (h2 + 1)), .ref (adr 5), .int ty, .int at', .int re, .ref (adr 6), .ref (adr 7), .ref (adr 8)]) := by rw [ec1]; exact va_up_self _ _ _
            have h_3 : cell1 1 = .inl (kc 0, 90, .inl S) := by rw [ec1, va_up_ne _ _ (by omega)]; exact u1
            have h_4 : cell1 2 = .inl (kc 0, 360, .inl Wm) := by rw [ec1, va_up_ne _ _ (by omega)]; exact u2
            have h_5 : cell1 3 = .inl (kc 0, 90, .inl Bg) := by rw [ec1, va_up_ne _ _ (by omega)]; exact u3
            have h_6 : cell1 4 = .inl (kc 0, 90, .inl As) := by rw [ec1, va_up_ne _ _ (by omega)]; exact u4
            have h_7 : cell1 5 = .inl (kc 1, 60, .inl tx) := by rw [ec1, va_up_ne _ _ (by omega)]; exact u5
            have h_8 : cell1 6 = .inl (kc 0, 3, .inl nu) := by rw [ec1, va_up_ne _ _ (by omega)]; exact u6
            have h_9 : cell1 7 = .inl (kc 0, 40, .inl mo) := by rw [ec1, va_up_ne _ _ (by omega)]; exact u7
            have h_10 : cell1 8 = .inl (kc 0, 6, .inl sh) := by rw [ec1, va_up_ne _ _ (by omega)]; exact u8
            refine g_iload_n C 1 rfl dX7_acted_98 ?_
            refine g_iret C hr rfl hlk dX7_acted_99 ?_
            have hrc : rcN hn = h2 + 1 := by have := hh2.1; have : 0 < rcN hn := (by unfold rcN; split <;> omega); omega
            refine ⟨rfl, Wm, by rw [show acN r hn = h2 + 1 from (if_pos (by omega)).trans hrc]; exact ⟨h_2, h_3, h_4, h_5, h_6, h_7, h_8, h_9, h_10⟩, fun _ j hj => ?_, fun h => absurd (show (-1000001 : Int) < r.toInt by omega) h⟩
            unfold acW
            rw [hrc, show h2 + 1 - 1 = h2 from rfl, hwm]
            by_cases c : 90 * h2 ≤ j ∧ j < 90 * h2 + 90
            · rw [if_pos c, if_pos (by omega)]
            · rw [if_neg c, if_neg (by omega)]; exact hwb j (by rw [hrc] at hj; omega)
          · -- not taken at 59
            have c59' := i_nle c59
            refine g_aload_n C 0 rfl dX7_acted_62 ?_
            refine g_get C 0 7 1 (by omega) u0 rfl in7 (by decide) f13 (fun _ h9 => h9) rfl dX7_acted_63 ?_
            refine g_bipush C 90 (by decide) dX7_acted_66 ?_
            refine g_aload_n C 0 rfl dX7_acted_68 ?_
            refine g_get C 0 7 4 (by omega) u0 rfl in7 (by decide) f44 (fun _ h9 => h9) rfl dX7_acted_69 ?_
            refine g_imul C dX7_acted_72 ?_
            refine g_eqst (st1 := ([.int (nI (90 * h2)), .ref (adr 2)] : List Value)) (congrArg (fun z0 : Int32 => (([.int z0, .ref (adr 2)] : List Value))) (mI_mul 90 h2)) ?_
            refine g_iload_n C 2 rfl dX7_acted_73 ?_
            refine g_iadd C dX7_acted_74 ?_
            refine g_eqst (st1 := ([.int (nI (90 * h2 + k2)), .ref (adr 2)] : List Value)) (congrArg (fun z0 : Int32 => (([.int z0, .ref (adr 2)] : List Value))) (mI_add (90 * h2) k2)) ?_
            refine g_aload_n C 0 rfl dX7_acted_75 ?_
            refine g_get C 0 7 2 (by omega) u0 rfl in7 (by decide) f16 (fun _ h9 => h9) rfl dX7_acted_76 ?_
            refine g_iload_n C 2 rfl dX7_acted_79 ?_
            refine g_iald C 3 (by omega) u3 (vp_in_nI (by omega) (by omega)) dX7_acted_80 ?_
            refine g_eqst (show ([.int (Bg (nI k2).toNatClampNeg), .int (nI (90 * h2 + k2)), .ref (adr 2)] : List Value) = ([.int (Bg k2), .int (nI (90 * h2 + k2)), .ref (adr 2)] : List Value) from by rw [nI_clamp (by omega)]) ?_
            refine g_iast C 2 (by omega) u2 (vp_in_nI (by omega) (by omega)) dX7_acted_81 ?_
            refine g_cell (fun cell12 ec12 => ?_)
            have h_13 : cell12 0 = .inr (7, [.ref (adr 1), .ref (adr 2), .ref (adr 3), .ref (adr 4), .int (nI h2), .ref (adr 5), .int ty, .int at', .int re, .ref (adr 6), .ref (adr 7), .ref (adr 8)]) := by rw [ec12, va_up_ne _ _ (by omega)]; exact u0
            have h_14 : cell12 1 = .inl (kc 0, 90, .inl S) := by rw [ec12, va_up_ne _ _ (by omega)]; exact u1
            have h_15 : cell12 2 = .inl (kc 0, 360, .inl (upd Wm (nI (90 * h2 + k2)).toNatClampNeg (Bg k2))) := by rw [ec12]; exact va_up_self _ _ _
            have h_16 : cell12 3 = .inl (kc 0, 90, .inl Bg) := by rw [ec12, va_up_ne _ _ (by omega)]; exact u3
            have h_17 : cell12 4 = .inl (kc 0, 90, .inl As) := by rw [ec12, va_up_ne _ _ (by omega)]; exact u4
            have h_18 : cell12 5 = .inl (kc 1, 60, .inl tx) := by rw [ec12, va_up_ne _ _ (by omega)]; exact u5
            have h_19 : cell12 6 = .inl (kc 0, 3, .inl nu) := by rw [ec12, va_up_ne _ _ (by omega)]; exact u6
            have h_20 : cell12 7 = .inl (kc 0, 40, .inl mo) := by rw [ec12, va_up_ne _ _ (by omega)]; exact u7
            have h_21 : cell12 8 = .inl (kc 0, 6, .inl sh) := by rw [ec12, va_up_ne _ _ (by omega)]; exact u8
            have h_23 : cell12 2 = .inl (kc 0, 360, .inl (upd Wm (90 * h2 + k2) (Bg k2))) := by rw [h_15, nI_clamp (by omega)]
            refine g_iinc C 2 [(2, .int (nI (k2 + 1))), (0, .ref (adr 0)), (1, .int r)] rfl (iinc_nI k2) (by decide) rfl dX7_acted_82 ?_
            refine g_goto C 56 (by decide) dX7_acted_85 ?_
            have hb : ∀ j : Nat, (upd Wm (90 * h2 + k2) (Bg k2)) j = if 90 * h2 ≤ j ∧ j < 90 * h2 + (k2 + 1) then Bg (j - 90 * h2) else Wb j := fun j => by
              by_cases e : j = 90 * h2 + k2
              · rw [e, upd_s, if_pos (by omega)]; exact congrArg Bg (by omega)
              · rw [upd_n e, hwm]
                by_cases c : 90 * h2 ≤ j ∧ j < 90 * h2 + k2
                · rw [if_pos c, if_pos (by omega)]
                · rw [if_neg c, if_neg (by omega)]
            refine g_sub [1, 2, 0] rfl ?_
            exact ih (k2 + 1) _ h2 Wb (upd Wm (90 * h2 + k2) (Bg k2)) (by omega) (by omega) h_13 h_14 h_23 h_16 h_17 h_18 h_19 h_20 h_21 hh2 hwb hb
      refine g_sub [1, 2, 0] rfl ?_
      exact L56 (90 + 1) 0 _ hn Wa Wa (by omega) (by omega) m0 m1 m2 m3 m4 m5 m6 m7 m8 (by unfold rcN; rw [if_pos (by omega)]; omega) (fun j hj => (if_pos (by omega)).symm) (fun j => (if_neg (by omega)).symm)
    · -- not taken at 11
      have c11' := i_eq c11
      refine g_iconst C 0 (by decide) dX7_acted_14 ?_
      refine g_istore_n C [(2, .int 0), (0, .ref (adr 0)), (1, .int r)] (by decide) rfl dX7_acted_15 ?_
      have L16 : ∀ (fu k : Nat) (cl : Nat → va_E) (Wl : Nat → Int32), k ≤ 270 → 270 < k + fu → (q0 : cl 0 = .inr (7, [.ref (adr 1), .ref (adr 2), .ref (adr 3), .ref (adr 4), .int (nI hn), .ref (adr 5), .int ty, .int at', .int re, .ref (adr 6), .ref (adr 7), .ref (adr 8)])) → (q1 : cl 1 = .inl (kc 0, 90, .inl S)) → (q2 : cl 2 = .inl (kc 0, 360, .inl Wl)) → (q3 : cl 3 = .inl (kc 0, 90, .inl Bg)) → (q4 : cl 4 = .inl (kc 0, 90, .inl As)) → (q5 : cl 5 = .inl (kc 1, 60, .inl tx)) → (q6 : cl 6 = .inl (kc 0, 3, .inl nu)) → (q7 : cl 7 = .inl (kc 0, 40, .inl mo)) → (q8 : cl 8 = .inl (kc 0, 6, .inl sh)) → (hwl : ∀ j : Nat, Wl j = if j < k then Wa (j + 90) else Wa j) → G Pg l Ev (headSpec wsX7_acted { frames := 0, cells := 0, slots := 0, locals := 0 }).room Sv Mi args below Me Cd D N adr Ar Sv.heap 3 0 0 (MQ below (va_Qi (fun (v : Int32) (cell1 : Nat → va_E) => r = v ∧ ∃ Wa1 : Nat → Int32, MB cell1 adr kc S Wa1 Bg As (nI (acN r hn)) tx ty at' re nu mo sh ∧ (-1000001 < r.toInt → ∀ j : Nat, j < 90 * rcN hn → Wa1 j = acW hn Wa Bg j) ∧ (¬ -1000001 < r.toInt → Wa1 = Wa)) (fun (cell1 : Nat → va_E) (t : State) => va_P D vwCl (wld N adr cell1) t.heap) Ar) args Sv 0 0 Ar) cl 16 [(0, .ref (adr 0)), (1, .int r), (2, .int (nI k))] ([] : List Value) := by
        intro fu
        induction fu with
        | zero => intro k cl Wl hle hfu; exact absurd hfu (by omega)
        | succ fu ih =>
          intro k cl Wl hle16 hfu16 q0 q1 q2 q3 q4 q5 q6 q7 q8 hwl
          have tn_k : (nI k).toInt = ((k : Nat) : Int) := nI_toInt (by omega)
          refine g_iload_n C 2 rfl dX7_acted_16 ?_
          refine g_sipush C 270 (by decide) dX7_acted_17 ?_
          refine g_icmp_ge C 44 (by decide) dX7_acted_20 (fun c20 => ?_) (fun c20 => ?_)
          · -- taken at 20
            have c20' := i_le c20
            obtain rfl : 270 = k := by omega
            refine g_aload_n C 0 rfl dX7_acted_44 ?_
            refine g_dup C rfl dX7_acted_45 ?_
            refine g_get C 0 7 4 (by omega) q0 rfl in7 (by decide) f44 (fun _ h9 => h9) rfl dX7_acted_46 ?_
            refine g_iconst C 1 (by decide) dX7_acted_49 ?_
            refine g_isub C dX7_acted_50 ?_
            refine g_eqst (show ([.int ((nI hn) - 1), .ref (adr 0)] : List Value) = ([.int (nI (hn - 1)), .ref (adr 0)] : List Value) from by rw [show nI hn - 1 = nI (hn - 1) from pk_sub (b := 1) (by omega)]) ?_
            refine g_put C 0 7 4 (by omega) q0 rfl in7 tyX7 tyX7_ok nmX7 (by decide) f44 (fun _ h9 => h9) rfl (ty := .int) (by decide +kernel) rfl rfl (Nat.le_of_ble_eq_true rfl) dX7_acted_51 ?_
            refine g_cell (fun cell25 ec25 => ?_)
            have h_26 : cell25 0 = .inr (7, [.ref (adr 1), .ref (adr 2), .ref (adr 3), .ref (adr 4), .int (nI (hn - 1)), .ref (adr 5), .int ty, .int at', .int re, .ref (adr 6), .ref (adr 7), .ref (adr 8)]) := by rw [ec25]; exact va_up_self _ _ _
            have h_27 : cell25 1 = .inl (kc 0, 90, .inl S) := by rw [ec25, va_up_ne _ _ (by omega)]; exact q1
            have h_28 : cell25 2 = .inl (kc 0, 360, .inl Wl) := by rw [ec25, va_up_ne _ _ (by omega)]; exact q2
            have h_29 : cell25 3 = .inl (kc 0, 90, .inl Bg) := by rw [ec25, va_up_ne _ _ (by omega)]; exact q3
            have h_30 : cell25 4 = .inl (kc 0, 90, .inl As) := by rw [ec25, va_up_ne _ _ (by omega)]; exact q4
            have h_31 : cell25 5 = .inl (kc 1, 60, .inl tx) := by rw [ec25, va_up_ne _ _ (by omega)]; exact q5
            have h_32 : cell25 6 = .inl (kc 0, 3, .inl nu) := by rw [ec25, va_up_ne _ _ (by omega)]; exact q6
            have h_33 : cell25 7 = .inl (kc 0, 40, .inl mo) := by rw [ec25, va_up_ne _ _ (by omega)]; exact q7
            have h_34 : cell25 8 = .inl (kc 0, 6, .inl sh) := by rw [ec25, va_up_ne _ _ (by omega)]; exact q8
            refine g_iconst C 0 (by decide) dX7_acted_54 ?_
            refine g_istore_n C [(2, .int 0), (0, .ref (adr 0)), (1, .int r)] (by decide) rfl dX7_acted_55 ?_
            have L56 : ∀ (fu k2 : Nat) (cm : Nat → va_E) (h2 : Nat) (Wb Wm : Nat → Int32), k2 ≤ 90 → 90 < k2 + fu → (u0 : cm 0 = .inr (7, [.ref (adr 1), .ref (adr 2), .ref (adr 3), .ref (adr 4), .int (nI h2), .ref (adr 5), .int ty, .int at', .int re, .ref (adr 6), .ref (adr 7), .ref (adr 8)])) → (u1 : cm 1 = .inl (kc 0, 90, .inl S)) → (u2 : cm 2 = .inl (kc 0, 360, .inl Wm)) → (u3 : cm 3 = .inl (kc 0, 90, .inl Bg)) → (u4 : cm 4 = .inl (kc 0, 90, .inl As)) → (u5 : cm 5 = .inl (kc 1, 60, .inl tx)) → (u6 : cm 6 = .inl (kc 0, 3, .inl nu)) → (u7 : cm 7 = .inl (kc 0, 40, .inl mo)) → (u8 : cm 8 = .inl (kc 0, 6, .inl sh)) → (hh2 : h2 = rcN hn - 1 ∧ h2 ≤ 3) → (hwb : ∀ j : Nat, j < 90 * h2 → Wb j = if hn < 4 then Wa j else Wa (j + 90)) → (hwm : ∀ j : Nat, Wm j = if 90 * h2 ≤ j ∧ j < 90 * h2 + k2 then Bg (j - 90 * h2) else Wb j) → G Pg l Ev (headSpec wsX7_acted { frames := 0, cells := 0, slots := 0, locals := 0 }).room Sv Mi args below Me Cd D N adr Ar Sv.heap 3 0 0 (MQ below (va_Qi (fun (v : Int32) (cell1 : Nat → va_E) => r = v ∧ ∃ Wa1 : Nat → Int32, MB cell1 adr kc S Wa1 Bg As (nI (acN r hn)) tx ty at' re nu mo sh ∧ (-1000001 < r.toInt → ∀ j : Nat, j < 90 * rcN hn → Wa1 j = acW hn Wa Bg j) ∧ (¬ -1000001 < r.toInt → Wa1 = Wa)) (fun (cell1 : Nat → va_E) (t : State) => va_P D vwCl (wld N adr cell1) t.heap) Ar) args Sv 0 0 Ar) cm 56 [(0, .ref (adr 0)), (1, .int r), (2, .int (nI k2))] ([] : List Value) := by
              intro fu
              induction fu with
              | zero => intro k2 cm h2 Wb Wm hle hfu; exact absurd hfu (by omega)
              | succ fu ih =>
                intro k2 cm h2 Wb Wm hle56 hfu56 u0 u1 u2 u3 u4 u5 u6 u7 u8 hh2 hwb hwm
                have tn_k2 : (nI k2).toInt = ((k2 : Nat) : Int) := nI_toInt (by omega)
                have hh3 := hh2.2
                refine g_iload_n C 2 rfl dX7_acted_56 ?_
                refine g_bipush C 90 (by decide) dX7_acted_57 ?_
                refine g_icmp_ge C 88 (by decide) dX7_acted_59 (fun c59 => ?_) (fun c59 => ?_)
                · -- taken at 59
                  have c59' := i_le c59
                  obtain rfl : 90 = k2 := by omega
                  refine g_aload_n C 0 rfl dX7_acted_88 ?_
                  refine g_dup C rfl dX7_acted_89 ?_
                  refine g_get C 0 7 4 (by omega) u0 rfl in7 (by decide) f44 (fun _ h9 => h9) rfl dX7_acted_90 ?_
                  refine g_iconst C 1 (by decide) dX7_acted_93 ?_
                  refine g_iadd C dX7_acted_94 ?_
                  refine g_eqst (st1 := ([.int (nI (h2 + 1)), .ref (adr 0)] : List Value)) (congrArg (fun z0 : Int32 => (([.int z0, .ref (adr 0)] : List Value))) (mI_add h2 1)) ?_
                  refine g_put C 0 7 4 (by omega) u0 rfl in7 tyX7 tyX7_ok nmX7 (by decide) f44 (fun _ h9 => h9) rfl (ty := .int) (by decide +kernel) rfl rfl (Nat.le_of_ble_eq_true rfl) dX7_acted_95 ?_
                  refine g_cell (fun cell36 ec36 => ?_)
                  have h_37 : cell36 0 = .inr (7, [.ref (adr 1), .ref (adr 2), .ref (adr 3), .ref (adr 4), .int (nI (h2 + 1)), .ref (adr 5), .int ty, .int at', .int re, .ref (adr 6), .ref (adr 7), .ref (adr 8)]) := by rw [ec36]; exact va_up_self _ _ _
                  have h_38 : cell36 1 = .inl (kc 0, 90, .inl S) := by rw [ec36, va_up_ne _ _ (by omega)]; exact u1
                  have h_39 : cell36 2 = .inl (kc 0, 360, .inl Wm) := by rw [ec36, va_up_ne _ _ (by omega)]; exact u2
                  have h_40 : cell36 3 = .inl (kc 0, 90, .inl Bg) := by rw [ec36, va_up_ne _ _ (by omega)]; exact u3
                  have h_41 : cell36 4 = .inl (kc 0, 90, .inl As) := by rw [ec36, va_up_ne _ _ (by omega)]; exact u4
                  have h_42 : cell36 5 = .inl (kc 1, 60, .inl tx) := by rw [ec36, va_up_ne _ _ (by omega)]; exact u5
                  have h_43 : cell36 6 = .inl (kc 0, 3, .inl nu) := by rw [ec36, va_up_ne _ _ (by omega)]; exact u6
                  have h_44 : cell36 7 = .inl (kc 0, 40, .inl mo) := by rw [ec36, va_up_ne _ _ (by omega)]; exact u7
                  have h_45 : cell36 8 = .inl (kc 0, 6, .inl sh) := by rw [ec36, va_up_ne _ _ (by omega)]; exact u8
                  refine g_iload_n C 1 rfl dX7_acted_98 ?_
                  refine g_iret C hr rfl hlk dX7_acted_99 ?_
                  have hrc : rcN hn = h2 + 1 := by have := hh2.1; have : 0 < rcN hn := (by unfold rcN; split <;> omega); omega
                  refine ⟨rfl, Wm, by rw [show acN r hn = h2 + 1 from (if_pos (by omega)).trans hrc]; exact ⟨h_37, h_38, h_39, h_40, h_41, h_42, h_43, h_44, h_45⟩, fun _ j hj => ?_, fun h => absurd (show (-1000001 : Int) < r.toInt by omega) h⟩
                  unfold acW
                  rw [hrc, show h2 + 1 - 1 = h2 from rfl, hwm]
                  by_cases c : 90 * h2 ≤ j ∧ j < 90 * h2 + 90
                  · rw [if_pos c, if_pos (by omega)]
                  · rw [if_neg c, if_neg (by omega)]; exact hwb j (by rw [hrc] at hj; omega)
                · -- not taken at 59
                  have c59' := i_nle c59
                  refine g_aload_n C 0 rfl dX7_acted_62 ?_
                  refine g_get C 0 7 1 (by omega) u0 rfl in7 (by decide) f13 (fun _ h9 => h9) rfl dX7_acted_63 ?_
                  refine g_bipush C 90 (by decide) dX7_acted_66 ?_
                  refine g_aload_n C 0 rfl dX7_acted_68 ?_
                  refine g_get C 0 7 4 (by omega) u0 rfl in7 (by decide) f44 (fun _ h9 => h9) rfl dX7_acted_69 ?_
                  refine g_imul C dX7_acted_72 ?_
                  refine g_eqst (st1 := ([.int (nI (90 * h2)), .ref (adr 2)] : List Value)) (congrArg (fun z0 : Int32 => (([.int z0, .ref (adr 2)] : List Value))) (mI_mul 90 h2)) ?_
                  refine g_iload_n C 2 rfl dX7_acted_73 ?_
                  refine g_iadd C dX7_acted_74 ?_
                  refine g_eqst (st1 := ([.int (nI (90 * h2 + k2)), .ref (adr 2)] : List Value)) (congrArg (fun z0 : Int32 => (([.int z0, .ref (adr 2)] : List Value))) (mI_add (90 * h2) k2)) ?_
                  refine g_aload_n C 0 rfl dX7_acted_75 ?_
                  refine g_get C 0 7 2 (by omega) u0 rfl in7 (by decide) f16 (fun _ h9 => h9) rfl dX7_acted_76 ?_
                  refine g_iload_n C 2 rfl dX7_acted_79 ?_
                  refine g_iald C 3 (by omega) u3 (vp_in_nI (by omega) (by omega)) dX7_acted_80 ?_
                  refine g_eqst (show ([.int (Bg (nI k2).toNatClampNeg), .int (nI (90 * h2 + k2)), .ref (adr 2)] : List Value) = ([.int (Bg k2), .int (nI (90 * h2 + k2)), .ref (adr 2)] : List Value) from by rw [nI_clamp (by omega)]) ?_
                  refine g_iast C 2 (by omega) u2 (vp_in_nI (by omega) (by omega)) dX7_acted_81 ?_
                  refine g_cell (fun cell47 ec47 => ?_)
                  have h_48 : cell47 0 = .inr (7, [.ref (adr 1), .ref (adr 2), .ref (adr 3), .ref (adr 4), .int (nI h2), .ref (adr 5), .int ty, .int at', .int re, .ref (adr 6), .ref (adr 7), .ref (adr 8)]) := by rw [ec47, va_up_ne _ _ (by omega)]; exact u0
                  have h_49 : cell47 1 = .inl (kc 0, 90, .inl S) := by rw [ec47, va_up_ne _ _ (by omega)]; exact u1
                  have h_50 : cell47 2 = .inl (kc 0, 360, .inl (upd Wm (nI (90 * h2 + k2)).toNatClampNeg (Bg k2))) := by rw [ec47]; exact va_up_self _ _ _
                  have h_51 : cell47 3 = .inl (kc 0, 90, .inl Bg) := by rw [ec47, va_up_ne _ _ (by omega)]; exact u3
                  have h_52 : cell47 4 = .inl (kc 0, 90, .inl As) := by rw [ec47, va_up_ne _ _ (by omega)]; exact u4
                  have h_53 : cell47 5 = .inl (kc 1, 60, .inl tx) := by rw [ec47, va_up_ne _ _ (by omega)]; exact u5
                  have h_54 : cell47 6 = .inl (kc 0, 3, .inl nu) := by rw [ec47, va_up_ne _ _ (by omega)]; exact u6
                  have h_55 : cell47 7 = .inl (kc 0, 40, .inl mo) := by rw [ec47, va_up_ne _ _ (by omega)]; exact u7
                  have h_56 : cell47 8 = .inl (kc 0, 6, .inl sh) := by rw [ec47, va_up_ne _ _ (by omega)]; exact u8
                  have h_58 : cell47 2 = .inl (kc 0, 360, .inl (upd Wm (90 * h2 + k2) (Bg k2))) := by rw [h_50, nI_clamp (by omega)]
                  refine g_iinc C 2 [(2, .int (nI (k2 + 1))), (0, .ref (adr 0)), (1, .int r)] rfl (iinc_nI k2) (by decide) rfl dX7_acted_82 ?_
                  refine g_goto C 56 (by decide) dX7_acted_85 ?_
                  have hb : ∀ j : Nat, (upd Wm (90 * h2 + k2) (Bg k2)) j = if 90 * h2 ≤ j ∧ j < 90 * h2 + (k2 + 1) then Bg (j - 90 * h2) else Wb j := fun j => by
                    by_cases e : j = 90 * h2 + k2
                    · rw [e, upd_s, if_pos (by omega)]; exact congrArg Bg (by omega)
                    · rw [upd_n e, hwm]
                      by_cases c : 90 * h2 ≤ j ∧ j < 90 * h2 + k2
                      · rw [if_pos c, if_pos (by omega)]
                      · rw [if_neg c, if_neg (by omega)]
                  refine g_sub [1, 2, 0] rfl ?_
                  exact ih (k2 + 1) _ h2 Wb (upd Wm (90 * h2 + k2) (Bg k2)) (by omega) (by omega) h_48 h_49 h_58 h_51 h_52 h_53 h_54 h_55 h_56 hh2 hwb hb
            refine g_sub [1, 2, 0] rfl ?_
            exact L56 (90 + 1) 0 _ (hn - 1) Wl Wl (by omega) (by omega) h_26 h_27 h_28 h_29 h_30 h_31 h_32 h_33 h_34 (by unfold rcN; rw [if_neg (by omega)]; omega) (fun j hj => by rw [if_neg (by omega), hwl, if_pos (by omega)]) (fun j => (if_neg (by omega)).symm)
          · -- not taken at 20
            have c20' := i_nle c20
            refine g_aload_n C 0 rfl dX7_acted_23 ?_
            refine g_get C 0 7 1 (by omega) q0 rfl in7 (by decide) f13 (fun _ h9 => h9) rfl dX7_acted_24 ?_
            refine g_iload_n C 2 rfl dX7_acted_27 ?_
            refine g_aload_n C 0 rfl dX7_acted_28 ?_
            refine g_get C 0 7 1 (by omega) q0 rfl in7 (by decide) f13 (fun _ h9 => h9) rfl dX7_acted_29 ?_
            refine g_iload_n C 2 rfl dX7_acted_32 ?_
            refine g_bipush C 90 (by decide) dX7_acted_33 ?_
            refine g_iadd C dX7_acted_35 ?_
            refine g_eqst (st1 := ([.int (nI (k + 90)), .ref (adr 2), .int (nI k), .ref (adr 2)] : List Value)) (congrArg (fun z0 : Int32 => (([.int z0, .ref (adr 2), .int (nI k), .ref (adr 2)] : List Value))) (mI_add k 90)) ?_
            refine g_iald C 2 (by omega) q2 (vp_in_nI (by omega) (by omega)) dX7_acted_36 ?_
            refine g_eqst (show ([.int (Wl (nI (k + 90)).toNatClampNeg), .int (nI k), .ref (adr 2)] : List Value) = ([.int (Wl (k + 90)), .int (nI k), .ref (adr 2)] : List Value) from by rw [nI_clamp (by omega)]) ?_
            refine g_iast C 2 (by omega) q2 (vp_in_nI (by omega) (by omega)) dX7_acted_37 ?_
            refine g_cell (fun cell59 ec59 => ?_)
            have h_60 : cell59 0 = .inr (7, [.ref (adr 1), .ref (adr 2), .ref (adr 3), .ref (adr 4), .int (nI hn), .ref (adr 5), .int ty, .int at', .int re, .ref (adr 6), .ref (adr 7), .ref (adr 8)]) := by rw [ec59, va_up_ne _ _ (by omega)]; exact q0
            have h_61 : cell59 1 = .inl (kc 0, 90, .inl S) := by rw [ec59, va_up_ne _ _ (by omega)]; exact q1
            have h_62 : cell59 2 = .inl (kc 0, 360, .inl (upd Wl (nI k).toNatClampNeg (Wl (k + 90)))) := by rw [ec59]; exact va_up_self _ _ _
            have h_63 : cell59 3 = .inl (kc 0, 90, .inl Bg) := by rw [ec59, va_up_ne _ _ (by omega)]; exact q3
            have h_64 : cell59 4 = .inl (kc 0, 90, .inl As) := by rw [ec59, va_up_ne _ _ (by omega)]; exact q4
            have h_65 : cell59 5 = .inl (kc 1, 60, .inl tx) := by rw [ec59, va_up_ne _ _ (by omega)]; exact q5
            have h_66 : cell59 6 = .inl (kc 0, 3, .inl nu) := by rw [ec59, va_up_ne _ _ (by omega)]; exact q6
            have h_67 : cell59 7 = .inl (kc 0, 40, .inl mo) := by rw [ec59, va_up_ne _ _ (by omega)]; exact q7
            have h_68 : cell59 8 = .inl (kc 0, 6, .inl sh) := by rw [ec59, va_up_ne _ _ (by omega)]; exact q8
            have h_70 : cell59 2 = .inl (kc 0, 360, .inl (upd Wl k (Wl (k + 90)))) := by rw [h_62, nI_clamp (by omega)]
            refine g_iinc C 2 [(2, .int (nI (k + 1))), (0, .ref (adr 0)), (1, .int r)] rfl (iinc_nI k) (by decide) rfl dX7_acted_38 ?_
            refine g_goto C 16 (by decide) dX7_acted_41 ?_
            have hb : ∀ j : Nat, (upd Wl k (Wl (k + 90))) j = if j < k + 1 then Wa (j + 90) else Wa j := fun j => by
              by_cases e : j = k
              · rw [e, upd_s, hwl, if_neg (by omega), if_pos (by omega)]
              · rw [upd_n e, hwl]
                by_cases c : j < k
                · rw [if_pos c, if_pos (by omega)]
                · rw [if_neg c, if_neg (by omega)]
            refine g_sub [1, 2, 0] rfl ?_
            exact ih (k + 1) _ _ (by omega) (by omega) h_60 h_61 h_70 h_63 h_64 h_65 h_66 h_67 h_68 hb
      refine g_sub [1, 2, 0] rfl ?_
      exact L16 (270 + 1) 0 _ _ (by omega) (by omega) m0 m1 m2 m3 m4 m5 m6 m7 m8 (fun j => (if_neg (Nat.not_lt_zero j)).symm)
