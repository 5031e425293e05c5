set_option maxRecDepth 100000 in
set_option maxHeartbeats 4000000 in
theorem c_X7_follows (l : Launch) (D : va_G) (kc : Nat → ClassId) (N : Nat) (adr : Nat → Nat) (cell : Nat → va_E) (S Wa Bg As tx : Nat → Int32) (st ty at' re : Int32) (nu mo sh : Nat → Int32) (m z : Nat) (b gb : Int32) (hB : MB cell adr kc S Wa Bg As st tx ty at' re nu mo sh) (hN : 9 ≤ N) (hm1 : S 1 = nI m) (hm6 : m ≤ 6) (hz : z ≤ 40) : MV l yX7_follows wsX7_follows ({ frames := 1, cells := 0, slots := 0, locals := 22 }) D kc N adr cell [.ref (adr 0), .int (nI z), .int b, .int gb] (fun (cell1 : Nat → va_E) => ∃ S1 : Nat → Int32, MB cell1 adr kc S1 Wa Bg As st tx ty at' re nu mo sh ∧ (∀ k : Nat, k < m → S1 (49 + 7 * k) = flw z b gb (S (49 + 7 * k))) ∧ ∀ j : Nat, (∀ k : Nat, k < m → j ≠ 49 + 7 * k) → S1 j = S j) := by
  refine met_v (cc := cX7_follows) (maxL := 7) (ret := none) (by decide) rfl (Nat.le_of_ble_eq_true rfl) (lv := [(0, .ref (adr 0)), (1, .int (nI z)), (2, .int b), (3, .int gb)]) rfl ?_
  intro Pg Ev Sv Mi args below Me Cd Ar C hr hlk hnm
  have in7 : ∀ w ∈ u_ws RX7 TX7 12, w ∈ wsX7_follows := by decide +kernel
  have f7 := C.2.2.2.2.1 (.fieldLink RX7 7 "WordAnchorsModel" "s" "[I") (by decide +kernel)
  have hB0 := hB
  obtain ⟨m0, m1, m2, m3, m4, m5, m6, m7, m8⟩ := hB
  have litm1 : ((-1) : Int32).toInt = -1 := rfl
  have lit0 : (0 : Int32).toInt = 0 := rfl
  have lit1 : (1 : Int32).toInt = 1 := rfl
  have lit7 : (7 : Int32).toInt = 7 := rfl
  have lit48 : (48 : Int32).toInt = 48 := rfl
  have tn_m : (nI m).toInt = ((m : Nat) : Int) := nI_toInt (by omega)
  have tn_z : (nI z).toInt = ((z : Nat) : Int) := nI_toInt (by omega)
  refine g_iconst C 0 (by decide) dX7_follows_0 ?_
  refine g_istore C [(4, .int 0), (0, .ref (adr 0)), (1, .int (nI z)), (2, .int b), (3, .int gb)] (by decide) rfl dX7_follows_1 ?_
  have L3 : ∀ (fu i : Nat) (cl : Nat → va_E) (Sl : Nat → Int32), i ≤ m → m < i + fu → (q0 : cl 0 = .inr (7, [.ref (adr 1), .ref (adr 2), .ref (adr 3), .ref (adr 4), .int st, .ref (adr 5), .int ty, .int at', .int re, .ref (adr 6), .ref (adr 7), .ref (adr 8)])) → (q1 : cl 1 = .inl (kc 0, 90, .inl Sl)) → (q2 : cl 2 = .inl (kc 0, 360, .inl Wa)) → (q3 : cl 3 = .inl (kc 0, 90, .inl Bg)) → (q4 : cl 4 = .inl (kc 0, 90, .inl As)) → (q5 : cl 5 = .inl (kc 1, 60, .inl tx)) → (q6 : cl 6 = .inl (kc 0, 3, .inl nu)) → (q7 : cl 7 = .inl (kc 0, 40, .inl mo)) → (q8 : cl 8 = .inl (kc 0, 6, .inl sh)) → (hs1 : ∀ k : Nat, k < i → Sl (49 + 7 * k) = flw z b gb (S (49 + 7 * k))) → (hs2 : ∀ j : Nat, (∀ k : Nat, k < i → j ≠ 49 + 7 * k) → Sl j = S j) → G Pg l Ev (headSpec wsX7_follows { frames := 1, cells := 0, slots := 0, locals := 22 }).room Sv Mi args below Me Cd D N adr Ar Sv.heap 7 0 0 (MQ below (va_Qv (fun (cell1 : Nat → va_E) => ∃ S1 : Nat → Int32, MB cell1 adr kc S1 Wa Bg As st tx ty at' re nu mo sh ∧ (∀ k : Nat, k < m → S1 (49 + 7 * k) = flw z b gb (S (49 + 7 * k))) ∧ ∀ j : Nat, (∀ k : Nat, k < m → j ≠ 49 + 7 * k) → S1 j = S j) (fun (cell1 : Nat → va_E) (t : State) => va_P D vwCl (wld N adr cell1) t.heap) Ar) args Sv 0 0 Ar) cl 3 [(0, .ref (adr 0)), (1, .int (nI z)), (2, .int b), (3, .int gb), (4, .int (nI i))] ([] : List Value) := by
    intro fu
    induction fu with
    | zero => intro i cl Sl hle hfu; exact absurd hfu (by omega)
    | succ fu ih =>
      intro i cl Sl hle3 hfu3 q0 q1 q2 q3 q4 q5 q6 q7 q8 hs1 hs2
      have tn_i : (nI i).toInt = ((i : Nat) : Int) := nI_toInt (by omega)
      refine g_iload C 4 rfl dX7_follows_3 ?_
      refine g_aload_n C 0 rfl dX7_follows_5 ?_
      refine g_get C 0 7 0 (by omega) q0 rfl in7 (by decide) f7 (fun _ h9 => h9) rfl dX7_follows_6 ?_
      refine g_iconst C 1 (by decide) dX7_follows_9 ?_
      refine g_iald C 1 (by omega) q1 (vp_in_iff.mpr (by omega)) dX7_follows_10 ?_
      refine g_eqst (st1 := ([.int (Sl 1), .int (nI i)] : List Value)) rfl ?_
      refine g_eqst (show ([.int (Sl 1), .int (nI i)] : List Value) = ([.int (nI m), .int (nI i)] : List Value) from by rw [hs2 1 (fun k hk => by omega), hm1]) ?_
      refine g_icmp_ge C 86 (by decide) dX7_follows_11 (fun c11 => ?_) (fun c11 => ?_)
      · -- taken at 11
        have c11' := i_le c11
        obtain rfl : m = i := by omega
        refine g_vret C hr hlk dX7_follows_86 ?_
        exact ⟨_, ⟨q0, q1, q2, q3, q4, q5, q6, q7, q8⟩, hs1, hs2⟩
      · -- not taken at 11
        have c11' := i_nle c11
        refine g_aload_n C 0 rfl dX7_follows_14 ?_
        refine g_iload C 4 rfl dX7_follows_15 ?_
        refine g_iconst C 1 (by decide) dX7_follows_17 ?_
        refine g_Vi C [.int (nI i), .int 1] 0 7 (by omega) q0 rfl (c_X7_an l D kc N adr cl Sl Wa Bg As tx st ty at' re nu mo sh i 1 ⟨q0, q1, q2, q3, q4, q5, q6, q7, q8⟩ (by omega) (by omega)) (cwV 2 C.2.2.2.2.1 gX7_follows_X7_an rfl rfl rfl (by decide +kernel) ⟨Nat.le_of_ble_eq_true rfl, Nat.le_of_ble_eq_true rfl⟩) rfl rfl (Nat.le_of_ble_eq_true rfl) (Nat.zero_le _) (Nat.zero_le _) dX7_follows_18 (fun v2 cell2 q2 => ?_)
        obtain ⟨rfl, rfl⟩ := q2
        refine g_eqst (st1 := ([.int (S (49 + 7 * i))] : List Value)) (by rw [show Sl (48 + 7 * i + 1) = S (49 + 7 * i) from (congrArg Sl (by omega : 48 + 7 * i + 1 = 49 + 7 * i)).trans (hs2 _ (fun k hk => by omega))]) ?_
        refine g_istore C [(5, .int (S (49 + 7 * i))), (0, .ref (adr 0)), (1, .int (nI z)), (2, .int b), (3, .int gb), (4, .int (nI i))] (by decide) rfl dX7_follows_21 ?_
        refine g_iload C 0 rfl dX7_follows_23 ?_
        refine g_iload_n C 2 rfl dX7_follows_25 ?_
        refine g_icmp_ne C 37 (by decide) dX7_follows_26 (fun c26 => ?_) (fun c26 => ?_)
        · -- taken at 26
          have c26' := i_ne c26
          refine g_iload C 0 rfl dX7_follows_37 ?_
          refine g_iload_n C 2 rfl dX7_follows_39 ?_
          refine g_icmp_lt C 50 (by decide) dX7_follows_40 (fun c40 => ?_) (fun c40 => ?_)
          · -- taken at 40
            have c40' := i_lt c40
            refine g_iload C 0 rfl dX7_follows_50 ?_
            refine g_istore C [(6, .int (S (49 + 7 * i))), (5, .int (S (49 + 7 * i))), (0, .ref (adr 0)), (1, .int (nI z)), (2, .int b), (3, .int gb), (4, .int (nI i))] (by decide) rfl dX7_follows_52 ?_
            refine g_aload_n C 2 rfl dX7_follows_54 ?_
            refine g_get C 0 7 0 (by omega) q0 rfl in7 (by decide) f7 (fun _ h9 => h9) rfl dX7_follows_55 ?_
            refine g_bipush C 48 (by decide) dX7_follows_58 ?_
            refine g_bipush C 7 (by decide) dX7_follows_60 ?_
            refine g_iload C 6 rfl dX7_follows_62 ?_
            refine g_imul C dX7_follows_64 ?_
            refine g_eqst (st1 := ([.int (nI (7 * i)), .int 48, .ref (adr 1)] : List Value)) (congrArg (fun z0 : Int32 => (([.int z0, .int 48, .ref (adr 1)] : List Value))) (mI_mul 7 i)) ?_
            refine g_iadd C dX7_follows_65 ?_
            refine g_eqst (st1 := ([.int (nI (48 + (7 * i))), .ref (adr 1)] : List Value)) (congrArg (fun z0 : Int32 => (([.int z0, .ref (adr 1)] : List Value))) (mI_add 48 (7 * i))) ?_
            refine g_iconst C 1 (by decide) dX7_follows_66 ?_
            refine g_iadd C dX7_follows_67 ?_
            refine g_eqst (st1 := ([.int (nI (48 + (7 * i) + 1)), .ref (adr 1)] : List Value)) (congrArg (fun z0 : Int32 => (([.int z0, .ref (adr 1)] : List Value))) (mI_add (48 + (7 * i)) 1)) ?_
            refine g_iload C 1 rfl dX7_follows_68 ?_
            refine g_if_ge C 77 (by decide) dX7_follows_70 (fun c70 => ?_) (fun c70 => ?_)
            · -- taken at 70
              have c70' := i_le c70
              refine g_iload C 0 rfl dX7_follows_77 ?_
              refine g_iast C 1 (by omega) q1 (vp_in_nI (by omega) (by omega)) dX7_follows_79 ?_
              refine g_cell (fun cell4 ec4 => ?_)
              have h_5 : cell4 0 = .inr (7, [.ref (adr 1), .ref (adr 2), .ref (adr 3), .ref (adr 4), .int st, .ref (adr 5), .int ty, .int at', .int re, .ref (adr 6), .ref (adr 7), .ref (adr 8)]) := by rw [ec4, va_up_ne _ _ (by omega)]; exact q0
              have h_6 : cell4 1 = .inl (kc 0, 90, .inl (upd Sl (nI (48 + (7 * i) + 1)).toNatClampNeg (S (49 + 7 * i)))) := by rw [ec4]; exact va_up_self _ _ _
              have h_7 : cell4 2 = .inl (kc 0, 360, .inl Wa) := by rw [ec4, va_up_ne _ _ (by omega)]; exact q2
              have h_8 : cell4 3 = .inl (kc 0, 90, .inl Bg) := by rw [ec4, va_up_ne _ _ (by omega)]; exact q3
              have h_9 : cell4 4 = .inl (kc 0, 90, .inl As) := by rw [ec4, va_up_ne _ _ (by omega)]; exact q4
              have h_10 : cell4 5 = .inl (kc 1, 60, .inl tx) := by rw [ec4, va_up_ne _ _ (by omega)]; exact q5
              have h_11 : cell4 6 = .inl (kc 0, 3, .inl nu) := by rw [ec4, va_up_ne _ _ (by omega)]; exact q6
              have h_12 : cell4 7 = .inl (kc 0, 40, .inl mo) := by rw [ec4, va_up_ne _ _ (by omega)]; exact q7
              have h_13 : cell4 8 = .inl (kc 0, 6, .inl sh) := by rw [ec4, va_up_ne _ _ (by omega)]; exact q8
              have h_15 : cell4 1 = .inl (kc 0, 90, .inl (upd Sl (48 + (7 * i) + 1) (S (49 + 7 * i)))) := by rw [h_6, nI_clamp (by omega)]
              refine g_iinc C 6 [(4, .int (nI (i + 1))), (6, .int (S (49 + 7 * i))), (5, .int (S (49 + 7 * i))), (0, .ref (adr 0)), (1, .int (nI z)), (2, .int b), (3, .int gb)] rfl (iinc_nI i) (by decide) rfl dX7_follows_80 ?_
              refine g_goto C 3 (by decide) dX7_follows_83 ?_
              have hV : (S (49 + 7 * i)) = flw z b gb (S (49 + 7 * i)) := Eq.symm (by unfold flw; rw [if_neg (by omega), if_neg (fun h => c26 h.1), if_neg (by omega)])
              have hb1 : ∀ k : Nat, k < i + 1 → (upd Sl (48 + (7 * i) + 1) (S (49 + 7 * i))) (49 + 7 * k) = flw z b gb (S (49 + 7 * k)) := fun k hk => by
                by_cases e : k = i
                · rw [e, show 49 + 7 * i = 48 + (7 * i) + 1 by omega, upd_s, show 48 + (7 * i) + 1 = 49 + 7 * i by omega]; exact hV
                · rw [upd_n (by omega)]; exact hs1 k (by omega)
              have hb2 : ∀ j : Nat, (∀ k : Nat, k < i + 1 → j ≠ 49 + 7 * k) → (upd Sl (48 + (7 * i) + 1) (S (49 + 7 * i))) j = S j := fun j hj => by
                rw [upd_n (by have := hj i (by omega); omega)]; exact hs2 j (fun k hk => hj k (by omega))
              refine g_sub [3, 4, 5, 6, 0] rfl ?_
              exact ih (i + 1) _ _ (by omega) (by omega) h_5 h_15 h_7 h_8 h_9 h_10 h_11 h_12 h_13 hb1 hb2
            · -- not taken at 70
              have c70' := i_nle c70
              refine g_iconst C (-1) (by decide) dX7_follows_73 ?_
              refine g_goto C 79 (by decide) dX7_follows_74 ?_
              refine g_iast C 1 (by omega) q1 (vp_in_nI (by omega) (by omega)) dX7_follows_79 ?_
              refine g_cell (fun cell16 ec16 => ?_)
              have h_17 : cell16 0 = .inr (7, [.ref (adr 1), .ref (adr 2), .ref (adr 3), .ref (adr 4), .int st, .ref (adr 5), .int ty, .int at', .int re, .ref (adr 6), .ref (adr 7), .ref (adr 8)]) := by rw [ec16, va_up_ne _ _ (by omega)]; exact q0
              have h_18 : cell16 1 = .inl (kc 0, 90, .inl (upd Sl (nI (48 + (7 * i) + 1)).toNatClampNeg (-1))) := by rw [ec16]; exact va_up_self _ _ _
              have h_19 : cell16 2 = .inl (kc 0, 360, .inl Wa) := by rw [ec16, va_up_ne _ _ (by omega)]; exact q2
              have h_20 : cell16 3 = .inl (kc 0, 90, .inl Bg) := by rw [ec16, va_up_ne _ _ (by omega)]; exact q3
              have h_21 : cell16 4 = .inl (kc 0, 90, .inl As) := by rw [ec16, va_up_ne _ _ (by omega)]; exact q4
              have h_22 : cell16 5 = .inl (kc 1, 60, .inl tx) := by rw [ec16, va_up_ne _ _ (by omega)]; exact q5
              have h_23 : cell16 6 = .inl (kc 0, 3, .inl nu) := by rw [ec16, va_up_ne _ _ (by omega)]; exact q6
              have h_24 : cell16 7 = .inl (kc 0, 40, .inl mo) := by rw [ec16, va_up_ne _ _ (by omega)]; exact q7
              have h_25 : cell16 8 = .inl (kc 0, 6, .inl sh) := by rw [ec16, va_up_ne _ _ (by omega)]; exact q8
              have h_27 : cell16 1 = .inl (kc 0, 90, .inl (upd Sl (48 + (7 * i) + 1) (-1))) := by rw [h_18, nI_clamp (by omega)]
              refine g_iinc C 6 [(4, .int (nI (i + 1))), (6, .int (S (49 + 7 * i))), (5, .int (S (49 + 7 * i))), (0, .ref (adr 0)), (1, .int (nI z)), (2, .int b), (3, .int gb)] rfl (iinc_nI i) (by decide) rfl dX7_follows_80 ?_
              refine g_goto C 3 (by decide) dX7_follows_83 ?_
              have hV : (-1) = flw z b gb (S (49 + 7 * i)) := (if_pos (by omega)).symm
              have hb1 : ∀ k : Nat, k < i + 1 → (upd Sl (48 + (7 * i) + 1) (-1)) (49 + 7 * k) = flw z b gb (S (49 + 7 * k)) := fun k hk => by
                by_cases e : k = i
                · rw [e, show 49 + 7 * i = 48 + (7 * i) + 1 by omega, upd_s, show 48 + (7 * i) + 1 = 49 + 7 * i by omega]; exact hV
                · rw [upd_n (by omega)]; exact hs1 k (by omega)
              have hb2 : ∀ j : Nat, (∀ k : Nat, k < i + 1 → j ≠ 49 + 7 * k) → (upd Sl (48 + (7 * i) + 1) (-1)) j = S j := fun j hj => by
                rw [upd_n (by have := hj i (by omega); omega)]; exact hs2 j (fun k hk => hj k (by omega))
              refine g_sub [3, 4, 5, 6, 0] rfl ?_
              exact ih (i + 1) _ _ (by omega) (by omega) h_17 h_27 h_19 h_20 h_21 h_22 h_23 h_24 h_25 hb1 hb2
          · -- not taken at 40
            have c40' := i_nlt c40
            refine g_iload C 0 rfl dX7_follows_43 ?_
            refine g_iload_n C 3 rfl dX7_follows_45 ?_
            refine g_iadd C dX7_follows_46 ?_
            refine g_goto C 52 (by decide) dX7_follows_47 ?_
            refine g_istore C [(6, .int ((S (49 + 7 * i)) + b)), (5, .int (S (49 + 7 * i))), (0, .ref (adr 0)), (1, .int (nI z)), (2, .int b), (3, .int gb), (4, .int (nI i))] (by decide) rfl dX7_follows_52 ?_
            refine g_aload_n C 2 rfl dX7_follows_54 ?_
            refine g_get C 0 7 0 (by omega) q0 rfl in7 (by decide) f7 (fun _ h9 => h9) rfl dX7_follows_55 ?_
            refine g_bipush C 48 (by decide) dX7_follows_58 ?_
            refine g_bipush C 7 (by decide) dX7_follows_60 ?_
            refine g_iload C 6 rfl dX7_follows_62 ?_
            refine g_imul C dX7_follows_64 ?_
            refine g_eqst (st1 := ([.int (nI (7 * i)), .int 48, .ref (adr 1)] : List Value)) (congrArg (fun z0 : Int32 => (([.int z0, .int 48, .ref (adr 1)] : List Value))) (mI_mul 7 i)) ?_
            refine g_iadd C dX7_follows_65 ?_
            refine g_eqst (st1 := ([.int (nI (48 + (7 * i))), .ref (adr 1)] : List Value)) (congrArg (fun z0 : Int32 => (([.int z0, .ref (adr 1)] : List Value))) (mI_add 48 (7 * i))) ?_
            refine g_iconst C 1 (by decide) dX7_follows_66 ?_
            refine g_iadd C dX7_follows_67 ?_
            refine g_eqst (st1 := ([.int (nI (48 + (7 * i) + 1)), .ref (adr 1)] : List Value)) (congrArg (fun z0 : Int32 => (([.int z0, .ref (adr 1)] : List Value))) (mI_add (48 + (7 * i)) 1)) ?_
            refine g_iload C 1 rfl dX7_follows_68 ?_
            refine g_if_ge C 77 (by decide) dX7_follows_70 (fun c70 => ?_) (fun c70 => ?_)
            · -- taken at 70
              have c70' := i_le c70
              refine g_iload C 0 rfl dX7_follows_77 ?_
              refine g_iast C 1 (by omega) q1 (vp_in_nI (by omega) (by omega)) dX7_follows_79 ?_
              refine g_cell (fun cell28 ec28 => ?_)
              have h_29 : cell28 0 = .inr (7, [.ref (adr 1), .ref (adr 2), .ref (adr 3), .ref (adr 4), .int st, .ref (adr 5), .int ty, .int at', .int re, .ref (adr 6), .ref (adr 7), .ref (adr 8)]) := by rw [ec28, va_up_ne _ _ (by omega)]; exact q0
              have h_30 : cell28 1 = .inl (kc 0, 90, .inl (upd Sl (nI (48 + (7 * i) + 1)).toNatClampNeg ((S (49 + 7 * i)) + b))) := by rw [ec28]; exact va_up_self _ _ _
              have h_31 : cell28 2 = .inl (kc 0, 360, .inl Wa) := by rw [ec28, va_up_ne _ _ (by omega)]; exact q2
              have h_32 : cell28 3 = .inl (kc 0, 90, .inl Bg) := by rw [ec28, va_up_ne _ _ (by omega)]; exact q3
              have h_33 : cell28 4 = .inl (kc 0, 90, .inl As) := by rw [ec28, va_up_ne _ _ (by omega)]; exact q4
              have h_34 : cell28 5 = .inl (kc 1, 60, .inl tx) := by rw [ec28, va_up_ne _ _ (by omega)]; exact q5
              have h_35 : cell28 6 = .inl (kc 0, 3, .inl nu) := by rw [ec28, va_up_ne _ _ (by omega)]; exact q6
              have h_36 : cell28 7 = .inl (kc 0, 40, .inl mo) := by rw [ec28, va_up_ne _ _ (by omega)]; exact q7
              have h_37 : cell28 8 = .inl (kc 0, 6, .inl sh) := by rw [ec28, va_up_ne _ _ (by omega)]; exact q8
              have h_39 : cell28 1 = .inl (kc 0, 90, .inl (upd Sl (48 + (7 * i) + 1) ((S (49 + 7 * i)) + b))) := by rw [h_30, nI_clamp (by omega)]
              refine g_iinc C 6 [(4, .int (nI (i + 1))), (6, .int ((S (49 + 7 * i)) + b)), (5, .int (S (49 + 7 * i))), (0, .ref (adr 0)), (1, .int (nI z)), (2, .int b), (3, .int gb)] rfl (iinc_nI i) (by decide) rfl dX7_follows_80 ?_
              refine g_goto C 3 (by decide) dX7_follows_83 ?_
              have hV : ((S (49 + 7 * i)) + b) = flw z b gb (S (49 + 7 * i)) := Eq.symm (by unfold flw; rw [if_neg (by omega), if_neg (fun h => c26 h.1), if_pos (by omega)])
              have hb1 : ∀ k : Nat, k < i + 1 → (upd Sl (48 + (7 * i) + 1) ((S (49 + 7 * i)) + b)) (49 + 7 * k) = flw z b gb (S (49 + 7 * k)) := fun k hk => by
                by_cases e : k = i
                · rw [e, show 49 + 7 * i = 48 + (7 * i) + 1 by omega, upd_s, show 48 + (7 * i) + 1 = 49 + 7 * i by omega]; exact hV
                · rw [upd_n (by omega)]; exact hs1 k (by omega)
              have hb2 : ∀ j : Nat, (∀ k : Nat, k < i + 1 → j ≠ 49 + 7 * k) → (upd Sl (48 + (7 * i) + 1) ((S (49 + 7 * i)) + b)) j = S j := fun j hj => by
                rw [upd_n (by have := hj i (by omega); omega)]; exact hs2 j (fun k hk => hj k (by omega))
              refine g_sub [3, 4, 5, 6, 0] rfl ?_
              exact ih (i + 1) _ _ (by omega) (by omega) h_29 h_39 h_31 h_32 h_33 h_34 h_35 h_36 h_37 hb1 hb2
            · -- not taken at 70
              have c70' := i_nle c70
              refine g_iconst C (-1) (by decide) dX7_follows_73 ?_
              refine g_goto C 79 (by decide) dX7_follows_74 ?_
              refine g_iast C 1 (by omega) q1 (vp_in_nI (by omega) (by omega)) dX7_follows_79 ?_
              refine g_cell (fun cell40 ec40 => ?_)
              have h_41 : cell40 0 = .inr (7, [.ref (adr 1), .ref (adr 2), .ref (adr 3), .ref (adr 4), .int st, .ref (adr 5), .int ty, .int at', .int re, .ref (adr 6), .ref (adr 7), .ref (adr 8)]) := by rw [ec40, va_up_ne _ _ (by omega)]; exact q0
              have h_42 : cell40 1 = .inl (kc 0, 90, .inl (upd Sl (nI (48 + (7 * i) + 1)).toNatClampNeg (-1))) := by rw [ec40]; exact va_up_self _ _ _
              have h_43 : cell40 2 = .inl (kc 0, 360, .inl Wa) := by rw [ec40, va_up_ne _ _ (by omega)]; exact q2
              have h_44 : cell40 3 = .inl (kc 0, 90, .inl Bg) := by rw [ec40, va_up_ne _ _ (by omega)]; exact q3
              have h_45 : cell40 4 = .inl (kc 0, 90, .inl As) := by rw [ec40, va_up_ne _ _ (by omega)]; exact q4
              have h_46 : cell40 5 = .inl (kc 1, 60, .inl tx) := by rw [ec40, va_up_ne _ _ (by omega)]; exact q5
              have h_47 : cell40 6 = .inl (kc 0, 3, .inl nu) := by rw [ec40, va_up_ne _ _ (by omega)]; exact q6
              have h_48 : cell40 7 = .inl (kc 0, 40, .inl mo) := by rw [ec40, va_up_ne _ _ (by omega)]; exact q7
              have h_49 : cell40 8 = .inl (kc 0, 6, .inl sh) := by rw [ec40, va_up_ne _ _ (by omega)]; exact q8
              have h_51 : cell40 1 = .inl (kc 0, 90, .inl (upd Sl (48 + (7 * i) + 1) (-1))) := by rw [h_42, nI_clamp (by omega)]
              refine g_iinc C 6 [(4, .int (nI (i + 1))), (6, .int ((S (49 + 7 * i)) + b)), (5, .int (S (49 + 7 * i))), (0, .ref (adr 0)), (1, .int (nI z)), (2, .int b), (3, .int gb)] rfl (iinc_nI i) (by decide) rfl dX7_follows_80 ?_
              refine g_goto C 3 (by decide) dX7_follows_83 ?_
              have hV : (-1) = flw z b gb (S (49 + 7 * i)) := (if_pos (by omega)).symm
              have hb1 : ∀ k : Nat, k < i + 1 → (upd Sl (48 + (7 * i) + 1) (-1)) (49 + 7 * k) = flw z b gb (S (49 + 7 * k)) := fun k hk => by
                by_cases e : k = i
                · rw [e, show 49 + 7 * i = 48 + (7 * i) + 1 by omega, upd_s, show 48 + (7 * i) + 1 = 49 + 7 * i by omega]; exact hV
                · rw [upd_n (by omega)]; exact hs1 k (by omega)
              have hb2 : ∀ j : Nat, (∀ k : Nat, k < i + 1 → j ≠ 49 + 7 * k) → (upd Sl (48 + (7 * i) + 1) (-1)) j = S j := fun j hj => by
                rw [upd_n (by have := hj i (by omega); omega)]; exact hs2 j (fun k hk => hj k (by omega))
              refine g_sub [3, 4, 5, 6, 0] rfl ?_
              exact ih (i + 1) _ _ (by omega) (by omega) h_41 h_51 h_43 h_44 h_45 h_46 h_47 h_48 h_49 hb1 hb2
        · -- not taken at 26
          have c26' := i_eq c26
          refine g_iload_n C 4 rfl dX7_follows_29 ?_
          refine g_if_eq C 37 (by decide) dX7_follows_30 (fun c30 => ?_) (fun c30 => ?_)
          · -- taken at 30
            have c30' := i_eq c30
            refine g_iload C 0 rfl dX7_follows_37 ?_
            refine g_iload_n C 2 rfl dX7_follows_39 ?_
            refine g_icmp_lt C 50 (by decide) dX7_follows_40 (fun c40 => ?_) (fun c40 => ?_)
            · -- taken at 40
              have c40' := i_lt c40
              refine g_iload C 0 rfl dX7_follows_50 ?_
              refine g_istore C [(6, .int (S (49 + 7 * i))), (5, .int (S (49 + 7 * i))), (0, .ref (adr 0)), (1, .int (nI z)), (2, .int b), (3, .int gb), (4, .int (nI i))] (by decide) rfl dX7_follows_52 ?_
              refine g_aload_n C 2 rfl dX7_follows_54 ?_
              refine g_get C 0 7 0 (by omega) q0 rfl in7 (by decide) f7 (fun _ h9 => h9) rfl dX7_follows_55 ?_
              refine g_bipush C 48 (by decide) dX7_follows_58 ?_
              refine g_bipush C 7 (by decide) dX7_follows_60 ?_
              refine g_iload C 6 rfl dX7_follows_62 ?_
              refine g_imul C dX7_follows_64 ?_
              refine g_eqst (st1 := ([.int (nI (7 * i)), .int 48, .ref (adr 1)] : List Value)) (congrArg (fun z0 : Int32 => (([.int z0, .int 48, .ref (adr 1)] : List Value))) (mI_mul 7 i)) ?_
              refine g_iadd C dX7_follows_65 ?_
              refine g_eqst (st1 := ([.int (nI (48 + (7 * i))), .ref (adr 1)] : List Value)) (congrArg (fun z0 : Int32 => (([.int z0, .ref (adr 1)] : List Value))) (mI_add 48 (7 * i))) ?_
              refine g_iconst C 1 (by decide) dX7_follows_66 ?_
              refine g_iadd C dX7_follows_67 ?_
              refine g_eqst (st1 := ([.int (nI (48 + (7 * i) + 1)), .ref (adr 1)] : List Value)) (congrArg (fun z0 : Int32 => (([.int z0, .ref (adr 1)] : List Value))) (mI_add (48 + (7 * i)) 1)) ?_
              refine g_iload C 1 rfl dX7_follows_68 ?_
              refine g_if_ge C 77 (by decide) dX7_follows_70 (fun c70 => ?_) (fun c70 => ?_)
              · -- taken at 70
                have c70' := i_le c70
                refine g_iload C 0 rfl dX7_follows_77 ?_
                refine g_iast C 1 (by omega) q1 (vp_in_nI (by omega) (by omega)) dX7_follows_79 ?_
                refine g_cell (fun cell52 ec52 => ?_)
                have h_53 : cell52 0 = .inr (7, [.ref (adr 1), .ref (adr 2), .ref (adr 3), .ref (adr 4), .int st, .ref (adr 5), .int ty, .int at', .int re, .ref (adr 6), .ref (adr 7), .ref (adr 8)]) := by rw [ec52, va_up_ne _ _ (by omega)]; exact q0
                have h_54 : cell52 1 = .inl (kc 0, 90, .inl (upd Sl (nI (48 + (7 * i) + 1)).toNatClampNeg (S (49 + 7 * i)))) := by rw [ec52]; exact va_up_self _ _ _
                have h_55 : cell52 2 = .inl (kc 0, 360, .inl Wa) := by rw [ec52, va_up_ne _ _ (by omega)]; exact q2
                have h_56 : cell52 3 = .inl (kc 0, 90, .inl Bg) := by rw [ec52, va_up_ne _ _ (by omega)]; exact q3
                have h_57 : cell52 4 = .inl (kc 0, 90, .inl As) := by rw [ec52, va_up_ne _ _ (by omega)]; exact q4
                have h_58 : cell52 5 = .inl (kc 1, 60, .inl tx) := by rw [ec52, va_up_ne _ _ (by omega)]; exact q5
                have h_59 : cell52 6 = .inl (kc 0, 3, .inl nu) := by rw [ec52, va_up_ne _ _ (by omega)]; exact q6
                have h_60 : cell52 7 = .inl (kc 0, 40, .inl mo) := by rw [ec52, va_up_ne _ _ (by omega)]; exact q7
                have h_61 : cell52 8 = .inl (kc 0, 6, .inl sh) := by rw [ec52, va_up_ne _ _ (by omega)]; exact q8
                have h_63 : cell52 1 = .inl (kc 0, 90, .inl (upd Sl (48 + (7 * i) + 1) (S (49 + 7 * i)))) := by rw [h_54, nI_clamp (by omega)]
                refine g_iinc C 6 [(4, .int (nI (i + 1))), (6, .int (S (49 + 7 * i))), (5, .int (S (49 + 7 * i))), (0, .ref (adr 0)), (1, .int (nI z)), (2, .int b), (3, .int gb)] rfl (iinc_nI i) (by decide) rfl dX7_follows_80 ?_
                refine g_goto C 3 (by decide) dX7_follows_83 ?_
                have hV : (S (49 + 7 * i)) = flw z b gb (S (49 + 7 * i)) := Eq.symm (by unfold flw; rw [if_neg (by omega), if_neg (fun h => h.2 c30), if_neg (by omega)])
                have hb1 : ∀ k : Nat, k < i + 1 → (upd Sl (48 + (7 * i) + 1) (S (49 + 7 * i))) (49 + 7 * k) = flw z b gb (S (49 + 7 * k)) := fun k hk => by
                  by_cases e : k = i
                  · rw [e, show 49 + 7 * i = 48 + (7 * i) + 1 by omega, upd_s, show 48 + (7 * i) + 1 = 49 + 7 * i by omega]; exact hV
                  · rw [upd_n (by omega)]; exact hs1 k (by omega)
                have hb2 : ∀ j : Nat, (∀ k : Nat, k < i + 1 → j ≠ 49 + 7 * k) → (upd Sl (48 + (7 * i) + 1) (S (49 + 7 * i))) j = S j := fun j hj => by
                  rw [upd_n (by have := hj i (by omega); omega)]; exact hs2 j (fun k hk => hj k (by omega))
                refine g_sub [3, 4, 5, 6, 0] rfl ?_
                exact ih (i + 1) _ _ (by omega) (by omega) h_53 h_63 h_55 h_56 h_57 h_58 h_59 h_60 h_61 hb1 hb2
              · -- not taken at 70
                have c70' := i_nle c70
                refine g_iconst C (-1) (by decide) dX7_follows_73 ?_
                refine g_goto C 79 (by decide) dX7_follows_74 ?_
                refine g_iast C 1 (by omega) q1 (vp_in_nI (by omega) (by omega)) dX7_follows_79 ?_
                refine g_cell (fun cell64 ec64 => ?_)
                have h_65 : cell64 0 = .inr (7, [.ref (adr 1), .ref (adr 2), .ref (adr 3), .ref (adr 4), .int st, .ref (adr 5), .int ty, .int at', .int re, .ref (adr 6), .ref (adr 7), .ref (adr 8)]) := by rw [ec64, va_up_ne _ _ (by omega)]; exact q0
                have h_66 : cell64 1 = .inl (kc 0, 90, .inl (upd Sl (nI (48 + (7 * i) + 1)).toNatClampNeg (-1))) := by rw [ec64]; exact va_up_self _ _ _
                have h_67 : cell64 2 = .inl (kc 0, 360, .inl Wa) := by rw [ec64, va_up_ne _ _ (by omega)]; exact q2
                have h_68 : cell64 3 = .inl (kc 0, 90, .inl Bg) := by rw [ec64, va_up_ne _ _ (by omega)]; exact q3
                have h_69 : cell64 4 = .inl (kc 0, 90, .inl As) := by rw [ec64, va_up_ne _ _ (by omega)]; exact q4
                have h_70 : cell64 5 = .inl (kc 1, 60, .inl tx) := by rw [ec64, va_up_ne _ _ (by omega)]; exact q5
                have h_71 : cell64 6 = .inl (kc 0, 3, .inl nu) := by rw [ec64, va_up_ne _ _ (by omega)]; exact q6
                have h_72 : cell64 7 = .inl (kc 0, 40, .inl mo) := by rw [ec64, va_up_ne _ _ (by omega)]; exact q7
                have h_73 : cell64 8 = .inl (kc 0, 6, .inl sh) := by rw [ec64, va_up_ne _ _ (by omega)]; exact q8
                have h_75 : cell64 1 = .inl (kc 0, 90, .inl (upd Sl (48 + (7 * i) + 1) (-1))) := by rw [h_66, nI_clamp (by omega)]
                refine g_iinc C 6 [(4, .int (nI (i + 1))), (6, .int (S (49 + 7 * i))), (5, .int (S (49 + 7 * i))), (0, .ref (adr 0)), (1, .int (nI z)), (2, .int b), (3, .int gb)] rfl (iinc_nI i) (by decide) rfl dX7_follows_80 ?_
                refine g_goto C 3 (by decide) dX7_follows_83 ?_
                have hV : (-1) = flw z b gb (S (49 + 7 * i)) := (if_pos (by omega)).symm
                have hb1 : ∀ k : Nat, k < i + 1 → (upd Sl (48 + (7 * i) + 1) (-1)) (49 + 7 * k) = flw z b gb (S (49 + 7 * k)) := fun k hk => by
                  by_cases e : k = i
                  · rw [e, show 49 + 7 * i = 48 + (7 * i) + 1 by omega, upd_s, show 48 + (7 * i) + 1 = 49 + 7 * i by omega]; exact hV
                  · rw [upd_n (by omega)]; exact hs1 k (by omega)
                have hb2 : ∀ j : Nat, (∀ k : Nat, k < i + 1 → j ≠ 49 + 7 * k) → (upd Sl (48 + (7 * i) + 1) (-1)) j = S j := fun j hj => by
                  rw [upd_n (by have := hj i (by omega); omega)]; exact hs2 j (fun k hk => hj k (by omega))
                refine g_sub [3, 4, 5, 6, 0] rfl ?_
                exact ih (i + 1) _ _ (by omega) (by omega) h_65 h_75 h_67 h_68 h_69 h_70 h_71 h_72 h_73 hb1 hb2
            · -- not taken at 40
              have c40' := i_nlt c40
              refine g_iload C 0 rfl dX7_follows_43 ?_
              refine g_iload_n C 3 rfl dX7_follows_45 ?_
              refine g_iadd C dX7_follows_46 ?_
              refine g_goto C 52 (by decide) dX7_follows_47 ?_
              refine g_istore C [(6, .int ((S (49 + 7 * i)) + b)), (5, .int (S (49 + 7 * i))), (0, .ref (adr 0)), (1, .int (nI z)), (2, .int b), (3, .int gb), (4, .int (nI i))] (by decide) rfl dX7_follows_52 ?_
              refine g_aload_n C 2 rfl dX7_follows_54 ?_
              refine g_get C 0 7 0 (by omega) q0 rfl in7 (by decide) f7 (fun _ h9 => h9) rfl dX7_follows_55 ?_
              refine g_bipush C 48 (by decide) dX7_follows_58 ?_
              refine g_bipush C 7 (by decide) dX7_follows_60 ?_
              refine g_iload C 6 rfl dX7_follows_62 ?_
              refine g_imul C dX7_follows_64 ?_
              refine g_eqst (st1 := ([.int (nI (7 * i)), .int 48, .ref (adr 1)] : List Value)) (congrArg (fun z0 : Int32 => (([.int z0, .int 48, .ref (adr 1)] : List Value))) (mI_mul 7 i)) ?_
              refine g_iadd C dX7_follows_65 ?_
              refine g_eqst (st1 := ([.int (nI (48 + (7 * i))), .ref (adr 1)] : List Value)) (congrArg (fun z0 : Int32 => (([.int z0, .ref (adr 1)] : List Value))) (mI_add 48 (7 * i))) ?_
              refine g_iconst C 1 (by decide) dX7_follows_66 ?_
              refine g_iadd C dX7_follows_67 ?_
              refine g_eqst (st1 := ([.int (nI (48 + (7 * i) + 1)), .ref (adr 1)] : List Value)) (congrArg (fun z0 : Int32 => (([.int z0, .ref (adr 1)] : List Value))) (mI_add (48 + (7 * i)) 1)) ?_
              refine g_iload C 1 rfl dX7_follows_68 ?_
              refine g_if_ge C 77 (by decide) dX7_follows_70 (fun c70 => ?_) (fun c70 => ?_)
              · -- taken at 70
                have c70' := i_le c70
                refine g_iload C 0 rfl dX7_follows_77 ?_
                refine g_iast C 1 (by omega) q1 (vp_in_nI (by omega) (by omega)) dX7_follows_79 ?_
                refine g_cell (fun cell76 ec76 => ?_)
                have h_77 : cell76 0 = .inr (7, [.ref (adr 1), .ref (adr 2), .ref (adr 3), .ref (adr 4), .int st, .ref (adr 5), .int ty, .int at', .int re, .ref (adr 6), .ref (adr 7), .ref (adr 8)]) := by rw [ec76, va_up_ne _ _ (by omega)]; exact q0
                have h_78 : cell76 1 = .inl (kc 0, 90, .inl (upd Sl (nI (48 + (7 * i) + 1)).toNatClampNeg ((S (49 + 7 * i)) + b))) := by rw [ec76]; exact va_up_self _ _ _
                have h_79 : cell76 2 = .inl (kc 0, 360, .inl Wa) := by rw [ec76, va_up_ne _ _ (by omega)]; exact q2
                have h_80 : cell76 3 = .inl (kc 0, 90, .inl Bg) := by rw [ec76, va_up_ne _ _ (by omega)]; exact q3
                have h_81 : cell76 4 = .inl (kc 0, 90, .inl As) := by rw [ec76, va_up_ne _ _ (by omega)]; exact q4
                have h_82 : cell76 5 = .inl (kc 1, 60, .inl tx) := by rw [ec76, va_up_ne _ _ (by omega)]; exact q5
                have h_83 : cell76 6 = .inl (kc 0, 3, .inl nu) := by rw [ec76, va_up_ne _ _ (by omega)]; exact q6
                have h_84 : cell76 7 = .inl (kc 0, 40, .inl mo) := by rw [ec76, va_up_ne _ _ (by omega)]; exact q7
                have h_85 : cell76 8 = .inl (kc 0, 6, .inl sh) := by rw [ec76, va_up_ne _ _ (by omega)]; exact q8
                have h_87 : cell76 1 = .inl (kc 0, 90, .inl (upd Sl (48 + (7 * i) + 1) ((S (49 + 7 * i)) + b))) := by rw [h_78, nI_clamp (by omega)]
                refine g_iinc C 6 [(4, .int (nI (i + 1))), (6, .int ((S (49 + 7 * i)) + b)), (5, .int (S (49 + 7 * i))), (0, .ref (adr 0)), (1, .int (nI z)), (2, .int b), (3, .int gb)] rfl (iinc_nI i) (by decide) rfl dX7_follows_80 ?_
                refine g_goto C 3 (by decide) dX7_follows_83 ?_
                have hV : ((S (49 + 7 * i)) + b) = flw z b gb (S (49 + 7 * i)) := Eq.symm (by unfold flw; rw [if_neg (by omega), if_neg (fun h => h.2 c30), if_pos (by omega)])
                have hb1 : ∀ k : Nat, k < i + 1 → (upd Sl (48 + (7 * i) + 1) ((S (49 + 7 * i)) + b)) (49 + 7 * k) = flw z b gb (S (49 + 7 * k)) := fun k hk => by
                  by_cases e : k = i
                  · rw [e, show 49 + 7 * i = 48 + (7 * i) + 1 by omega, upd_s, show 48 + (7 * i) + 1 = 49 + 7 * i by omega]; exact hV
                  · rw [upd_n (by omega)]; exact hs1 k (by omega)
                have hb2 : ∀ j : Nat, (∀ k : Nat, k < i + 1 → j ≠ 49 + 7 * k) → (upd Sl (48 + (7 * i) + 1) ((S (49 + 7 * i)) + b)) j = S j := fun j hj => by
                  rw [upd_n (by have := hj i (by omega); omega)]; exact hs2 j (fun k hk => hj k (by omega))
                refine g_sub [3, 4, 5, 6, 0] rfl ?_
                exact ih (i + 1) _ _ (by omega) (by omega) h_77 h_87 h_79 h_80 h_81 h_82 h_83 h_84 h_85 hb1 hb2
              · -- not taken at 70
                have c70' := i_nle c70
                refine g_iconst C (-1) (by decide) dX7_follows_73 ?_
                refine g_goto C 79 (by decide) dX7_follows_74 ?_
                refine g_iast C 1 (by omega) q1 (vp_in_nI (by omega) (by omega)) dX7_follows_79 ?_
                refine g_cell (fun cell88 ec88 => ?_)
                have h_89 : cell88 0 = .inr (7, [.ref (adr 1), .ref (adr 2), .ref (adr 3), .ref (adr 4), .int st, .ref (adr 5), .int ty, .int at', .int re, .ref (adr 6), .ref (adr 7), .ref (adr 8)]) := by rw [ec88, va_up_ne _ _ (by omega)]; exact q0
                have h_90 : cell88 1 = .inl (kc 0, 90, .inl (upd Sl (nI (48 + (7 * i) + 1)).toNatClampNeg (-1))) := by rw [ec88]; exact va_up_self _ _ _
                have h_91 : cell88 2 = .inl (kc 0, 360, .inl Wa) := by rw [ec88, va_up_ne _ _ (by omega)]; exact q2
                have h_92 : cell88 3 = .inl (kc 0, 90, .inl Bg) := by rw [ec88, va_up_ne _ _ (by omega)]; exact q3
                have h_93 : cell88 4 = .inl (kc 0, 90, .inl As) := by rw [ec88, va_up_ne _ _ (by omega)]; exact q4
                have h_94 : cell88 5 = .inl (kc 1, 60, .inl tx) := by rw [ec88, va_up_ne _ _ (by omega)]; exact q5
                have h_95 : cell88 6 = .inl (kc 0, 3, .inl nu) := by rw [ec88, va_up_ne _ _ (by omega)]; exact q6
                have h_96 : cell88 7 = .inl (kc 0, 40, .inl mo) := by rw [ec88, va_up_ne _ _ (by omega)]; exact q7
                have h_97 : cell88 8 = .inl (kc 0, 6, .inl sh) := by rw [ec88, va_up_ne _ _ (by omega)]; exact q8
                have h_99 : cell88 1 = .inl (kc 0, 90, .inl (upd Sl (48 + (7 * i) + 1) (-1))) := by rw [h_90, nI_clamp (by omega)]
                refine g_iinc C 6 [(4, .int (nI (i + 1))), (6, .int ((S (49 + 7 * i)) + b)), (5, .int (S (49 + 7 * i))), (0, .ref (adr 0)), (1, .int (nI z)), (2, .int b), (3, .int gb)] rfl (iinc_nI i) (by decide) rfl dX7_follows_80 ?_
                refine g_goto C 3 (by decide) dX7_follows_83 ?_
                have hV : (-1) = flw z b gb (S (49 + 7 * i)) := (if_pos (by omega)).symm
                have hb1 : ∀ k : Nat, k < i + 1 → (upd Sl (48 + (7 * i) + 1) (-1)) (49 + 7 * k) = flw z b gb (S (49 + 7 * k)) := fun k hk => by
                  by_cases e : k = i
                  · rw [e, show 49 + 7 * i = 48 + (7 * i) + 1 by omega, upd_s, show 48 + (7 * i) + 1 = 49 + 7 * i by omega]; exact hV
                  · rw [upd_n (by omega)]; exact hs1 k (by omega)
                have hb2 : ∀ j : Nat, (∀ k : Nat, k < i + 1 → j ≠ 49 + 7 * k) → (upd Sl (48 + (7 * i) + 1) (-1)) j = S j := fun j hj => by
                  rw [upd_n (by have := hj i (by omega); omega)]; exact hs2 j (fun k hk => hj k (by omega))
                refine g_sub [3, 4, 5, 6, 0] rfl ?_
                exact ih (i + 1) _ _ (by omega) (by omega) h_89 h_99 h_91 h_92 h_93 h_94 h_95 h_96 h_97 hb1 hb2
          · -- not taken at 30
            have c30' := i_ne c30
            refine g_iconst C (-1) (by decide) dX7_follows_33 ?_
            refine g_goto C 52 (by decide) dX7_follows_34 ?_
            refine g_istore C [(6, .int (-1)), (5, .int (S (49 + 7 * i))), (0, .ref (adr 0)), (1, .int (nI z)), (2, .int b), (3, .int gb), (4, .int (nI i))] (by decide) rfl dX7_follows_52 ?_
            refine g_aload_n C 2 rfl dX7_follows_54 ?_
            refine g_get C 0 7 0 (by omega) q0 rfl in7 (by decide) f7 (fun _ h9 => h9) rfl dX7_follows_55 ?_
            refine g_bipush C 48 (by decide) dX7_follows_58 ?_
            refine g_bipush C 7 (by decide) dX7_follows_60 ?_
            refine g_iload C 6 rfl dX7_follows_62 ?_
            refine g_imul C dX7_follows_64 ?_
            refine g_eqst (st1 := ([.int (nI (7 * i)), .int 48, .ref (adr 1)] : List Value)) (congrArg (fun z0 : Int32 => (([.int z0, .int 48, .ref (adr 1)] : List Value))) (mI_mul 7 i)) ?_
            refine g_iadd C dX7_follows_65 ?_
            refine g_eqst (st1 := ([.int (nI (48 + (7 * i))), .ref (adr 1)] : List Value)) (congrArg (fun z0 : Int32 => (([.int z0, .ref (adr 1)] : List Value))) (mI_add 48 (7 * i))) ?_
            refine g_iconst C 1 (by decide) dX7_follows_66 ?_
            refine g_iadd C dX7_follows_67 ?_
            refine g_eqst (st1 := ([.int (nI (48 + (7 * i) + 1)), .ref (adr 1)] : List Value)) (congrArg (fun z0 : Int32 => (([.int z0, .ref (adr 1)] : List Value))) (mI_add (48 + (7 * i)) 1)) ?_
            refine g_iload C 1 rfl dX7_follows_68 ?_
            refine g_if_ge C 77 (by decide) dX7_follows_70 (fun c70 => ?_) (fun c70 => ?_)
            · -- taken at 70
              have c70' := i_le c70
              refine g_iload C 0 rfl dX7_follows_77 ?_
              refine g_iast C 1 (by omega) q1 (vp_in_nI (by omega) (by omega)) dX7_follows_79 ?_
              refine g_cell (fun cell100 ec100 => ?_)
              have h_101 : cell100 0 = .inr (7, [.ref (adr 1), .ref (adr 2), .ref (adr 3), .ref (adr 4), .int st, .ref (adr 5), .int ty, .int at', .int re, .ref (adr 6), .ref (adr 7), .ref (adr 8)]) := by rw [ec100, va_up_ne _ _ (by omega)]; exact q0
              have h_102 : cell100 1 = .inl (kc 0, 90, .inl (upd Sl (nI (48 + (7 * i) + 1)).toNatClampNeg (-1))) := by rw [ec100]; exact va_up_self _ _ _
              have h_103 : cell100 2 = .inl (kc 0, 360, .inl Wa) := by rw [ec100, va_up_ne _ _ (by omega)]; exact q2
              have h_104 : cell100 3 = .inl (kc 0, 90, .inl Bg) := by rw [ec100, va_up_ne _ _ (by omega)]; exact q3
              have h_105 : cell100 4 = .inl (kc 0, 90, .inl As) := by rw [ec100, va_up_ne _ _ (by omega)]; exact q4
              have h_106 : cell100 5 = .inl (kc 1, 60, .inl tx) := by rw [ec100, va_up_ne _ _ (by omega)]; exact q5
              have h_107 : cell100 6 = .inl (kc 0, 3, .inl nu) := by rw [ec100, va_up_ne _ _ (by omega)]; exact q6
              have h_108 : cell100 7 = .inl (kc 0, 40, .inl mo) := by rw [ec100, va_up_ne _ _ (by omega)]; exact q7
              have h_109 : cell100 8 = .inl (kc 0, 6, .inl sh) := by rw [ec100, va_up_ne _ _ (by omega)]; exact q8
              have h_111 : cell100 1 = .inl (kc 0, 90, .inl (upd Sl (48 + (7 * i) + 1) (-1))) := by rw [h_102, nI_clamp (by omega)]
              refine g_iinc C 6 [(4, .int (nI (i + 1))), (6, .int (-1)), (5, .int (S (49 + 7 * i))), (0, .ref (adr 0)), (1, .int (nI z)), (2, .int b), (3, .int gb)] rfl (iinc_nI i) (by decide) rfl dX7_follows_80 ?_
              refine g_goto C 3 (by decide) dX7_follows_83 ?_
              have hV : (-1) = flw z b gb (S (49 + 7 * i)) := Eq.symm (by unfold flw; rw [if_neg (by omega), if_pos ⟨c26, c30⟩])
              have hb1 : ∀ k : Nat, k < i + 1 → (upd Sl (48 + (7 * i) + 1) (-1)) (49 + 7 * k) = flw z b gb (S (49 + 7 * k)) := fun k hk => by
                by_cases e : k = i
                · rw [e, show 49 + 7 * i = 48 + (7 * i) + 1 by omega, upd_s, show 48 + (7 * i) + 1 = 49 + 7 * i by omega]; exact hV
                · rw [upd_n (by omega)]; exact hs1 k (by omega)
              have hb2 : ∀ j : Nat, (∀ k : Nat, k < i + 1 → j ≠ 49 + 7 * k) → (upd Sl (48 + (7 * i) + 1) (-1)) j = S j := fun j hj => by
                rw [upd_n (by have := hj i (by omega); omega)]; exact hs2 j (fun k hk => hj k (by omega))
              refine g_sub [3, 4, 5, 6, 0] rfl ?_
              exact ih (i + 1) _ _ (by omega) (by omega) h_101 h_111 h_103 h_104 h_105 h_106 h_107 h_108 h_109 hb1 hb2
            · -- not taken at 70
              have c70' := i_nle c70
              refine g_iconst C (-1) (by decide) dX7_follows_73 ?_
              refine g_goto C 79 (by decide) dX7_follows_74 ?_
              refine g_iast C 1 (by omega) q1 (vp_in_nI (by omega) (by omega)) dX7_follows_79 ?_
              refine g_cell (fun cell112 ec112 => ?_)
              have h_113 : cell112 0 = .inr (7, [.ref (adr 1), .ref (adr 2), .ref (adr 3), .ref (adr 4), .int st, .ref (adr 5), .int ty, .int at', .int re, .ref (adr 6), .ref (adr 7), .ref (adr 8)]) := by rw [ec112, va_up_ne _ _ (by omega)]; exact q0
              have h_114 : cell112 1 = .inl (kc 0, 90, .inl (upd Sl (nI (48 + (7 * i) + 1)).toNatClampNeg (-1))) := by rw [ec112]; exact va_up_self _ _ _
              have h_115 : cell112 2 = .inl (kc 0, 360, .inl Wa) := by rw [ec112, va_up_ne _ _ (by omega)]; exact q2
              have h_116 : cell112 3 = .inl (kc 0, 90, .inl Bg) := by rw [ec112, va_up_ne _ _ (by omega)]; exact q3
              have h_117 : cell112 4 = .inl (kc 0, 90, .inl As) := by rw [ec112, va_up_ne _ _ (by omega)]; exact q4
              have h_118 : cell112 5 = .inl (kc 1, 60, .inl tx) := by rw [ec112, va_up_ne _ _ (by omega)]; exact q5
              have h_119 : cell112 6 = .inl (kc 0, 3, .inl nu) := by rw [ec112, va_up_ne _ _ (by omega)]; exact q6
              have h_120 : cell112 7 = .inl (kc 0, 40, .inl mo) := by rw [ec112, va_up_ne _ _ (by omega)]; exact q7
              have h_121 : cell112 8 = .inl (kc 0, 6, .inl sh) := by rw [ec112, va_up_ne _ _ (by omega)]; exact q8
              have h_123 : cell112 1 = .inl (kc 0, 90, .inl (upd Sl (48 + (7 * i) + 1) (-1))) := by rw [h_114, nI_clamp (by omega)]
              refine g_iinc C 6 [(4, .int (nI (i + 1))), (6, .int (-1)), (5, .int (S (49 + 7 * i))), (0, .ref (adr 0)), (1, .int (nI z)), (2, .int b), (3, .int gb)] rfl (iinc_nI i) (by decide) rfl dX7_follows_80 ?_
              refine g_goto C 3 (by decide) dX7_follows_83 ?_
              have hV : (-1) = flw z b gb (S (49 + 7 * i)) := (if_pos (by omega)).symm
              have hb1 : ∀ k : Nat, k < i + 1 → (upd Sl (48 + (7 * i) + 1) (-1)) (49 + 7 * k) = flw z b gb (S (49 + 7 * k)) := fun k hk => by
                by_cases e : k = i
                · rw [e, show 49 + 7 * i = 48 + (7 * i) + 1 by omega, upd_s, show 48 + (7 * i) + 1 = 49 + 7 * i by omega]; exact hV
                · rw [upd_n (by omega)]; exact hs1 k (by omega)
              have hb2 : ∀ j : Nat, (∀ k : Nat, k < i + 1 → j ≠ 49 + 7 * k) → (upd Sl (48 + (7 * i) + 1) (-1)) j = S j := fun j hj => by
                rw [upd_n (by have := hj i (by omega); omega)]; exact hs2 j (fun k hk => hj k (by omega))
              refine g_sub [3, 4, 5, 6, 0] rfl ?_
              exact ih (i + 1) _ _ (by omega) (by omega) h_113 h_123 h_115 h_116 h_117 h_118 h_119 h_120 h_121 hb1 hb2
  refine g_sub [1, 2, 3, 4, 0] rfl ?_
  exact L3 (m + 1) 0 _ _ (by omega) (by omega) m0 m1 m2 m3 m4 m5 m6 m7 m8 (fun k hk => absurd hk (Nat.not_lt_zero k)) (fun j hj => rfl)
set_option maxRecDepth 100000 in
set_option maxHeartbeats 4000000 in
theorem c_X7_then (l : Launch) (D : va_G) (kc : Nat → ClassId) (N : Nat) (adr : Nat → Nat) (cell : Nat → va_E) (q f k t : Nat) (hb : q < 40 ∧ f + k ≤ 40 ∧ t + k ≤ 40) : MI l yX7_then wsX7_then ({ frames := 1, cells := 0, slots := 0, locals := 22 }) D kc N adr cell [.int (nI q), .int (nI f), .int (nI k), .int (nI t)] (fun (v : Int32) (cell1 : Nat → va_E) => nI (pasF f k t q) = v ∧ cell = cell1) := by
  refine met_i (cc := cX7_then) (maxL := 5) (ret := (some .int)) (by decide) rfl (Nat.le_of_ble_eq_true rfl) (lv := [(0, .int (nI q)), (1, .int (nI f)), (2, .int (nI k)), (3, .int (nI t))]) rfl ?_
  intro Pg Ev Sv Mi args below Me Cd Ar C hr hlk hnm
  obtain ⟨hb1, hb2, hb3⟩ := hb
  have litm1 : ((-1) : Int32).toInt = -1 := rfl
  have lit0 : (0 : Int32).toInt = 0 := rfl
  have lit1 : (1 : Int32).toInt = 1 := rfl
  have tn_q : (nI q).toInt = ((q : Nat) : Int) := nI_toInt (by omega)
  have tn_f : (nI f).toInt = ((f : Nat) : Int) := nI_toInt (by omega)
  have tn_k : (nI k).toInt = ((k : Nat) : Int) := nI_toInt (by omega)
  have tn_t : (nI t).toInt = ((t : Nat) : Int) := nI_toInt (by omega)
  refine g_iload_n C 0 rfl dX7_then_0 ?_
  refine g_iload_n C 1 rfl dX7_then_1 ?_
  refine g_iload_n C 1 rfl dX7_then_2 ?_
  refine g_iload_n C 2 rfl dX7_then_3 ?_
  refine g_iadd C dX7_then_4 ?_
  have ta_1 : ((nI f) + (nI k)).toInt = (nI f).toInt + (nI k).toInt := t_add (by omega) (by omega)
  refine g_iconst C 1 (by decide) dX7_then_5 ?_
  refine g_isub C dX7_then_6 ?_
  have ta_2 : (((nI f) + (nI k)) - 1).toInt = ((nI f) + (nI k)).toInt - (1 : Int32).toInt := t_sub (by omega) (by omega)
  refine g_Si C [.int (nI q), .int (nI f), .int (((nI f) + (nI k)) - 1)] (c_X7_in l D kc N adr cell (nI q) (nI f) (((nI f) + (nI k)) - 1)) (va_cwS 3 C.2.2.2.2.1 gX7_then_X7_in rfl rfl rfl (by decide +kernel) ⟨Nat.le_of_ble_eq_true rfl, Nat.le_of_ble_eq_true rfl⟩) rfl rfl (Nat.le_of_ble_eq_true rfl) (Nat.zero_le _) (Nat.zero_le _) dX7_then_7 (fun v3 cell3 q3 => ?_)
  obtain ⟨rfl, rfl⟩ := q3
  refine g_if_eq C 19 (by decide) dX7_then_10 (fun c10 => ?_) (fun c10 => ?_)
  · -- taken at 10
    have c10' := bI_f c10
    refine g_iload_n C 0 rfl dX7_then_19 ?_
    refine g_iload_n C 1 rfl dX7_then_20 ?_
    refine g_icmp_ge C 28 (by decide) dX7_then_21 (fun c21 => ?_) (fun c21 => ?_)
    · -- taken at 21
      have c21' := i_le c21
      refine g_iload_n C 0 rfl dX7_then_28 ?_
      refine g_iload_n C 2 rfl dX7_then_29 ?_
      refine g_isub C dX7_then_30 ?_
      have ta_4 : ((nI q) - (nI k)).toInt = (nI q).toInt - (nI k).toInt := t_sub (by omega) (by omega)
      refine g_istore C [(4, .int ((nI q) - (nI k))), (0, .int (nI q)), (1, .int (nI f)), (2, .int (nI k)), (3, .int (nI t))] (by decide) rfl dX7_then_31 ?_
      refine g_iload C 0 rfl dX7_then_33 ?_
      refine g_iload_n C 4 rfl dX7_then_35 ?_
      refine g_icmp_ge C 44 (by decide) dX7_then_36 (fun c36 => ?_) (fun c36 => ?_)
      · -- taken at 36
        have c36' := i_le c36
        refine g_iload C 0 rfl dX7_then_44 ?_
        refine g_iload_n C 3 rfl dX7_then_46 ?_
        refine g_iadd C dX7_then_47 ?_
        have ta_5 : (((nI q) - (nI k)) + (nI k)).toInt = ((nI q) - (nI k)).toInt + (nI k).toInt := t_add (by omega) (by omega)
        refine g_iret C hr rfl hlk dX7_then_48 ?_
        have hp : pasF f k t q < 40 := by unfold pasF; (repeat' split) <;> omega
        exact ⟨i_inj (by rw [nI_toInt (n := pasF f k t q) (by omega)]; unfold pasF; (repeat' split) <;> omega), rfl⟩
      · -- not taken at 36
        have c36' := i_nle c36
        refine g_iload C 0 rfl dX7_then_39 ?_
        refine g_goto C 48 (by decide) dX7_then_41 ?_
        refine g_iret C hr rfl hlk dX7_then_48 ?_
        have hp : pasF f k t q < 40 := by unfold pasF; (repeat' split) <;> omega
        exact ⟨i_inj (by rw [nI_toInt (n := pasF f k t q) (by omega)]; unfold pasF; (repeat' split) <;> omega), rfl⟩
    · -- not taken at 21
      have c21' := i_nle c21
      refine g_iload_n C 0 rfl dX7_then_24 ?_
      refine g_goto C 31 (by decide) dX7_then_25 ?_
      refine g_istore C [(4, .int (nI q)), (0, .int (nI q)), (1, .int (nI f)), (2, .int (nI k)), (3, .int (nI t))] (by decide) rfl dX7_then_31 ?_
      refine g_iload C 0 rfl dX7_then_33 ?_
      refine g_iload_n C 4 rfl dX7_then_35 ?_
      refine g_icmp_ge C 44 (by decide) dX7_then_36 (fun c36 => ?_) (fun c36 => ?_)
      · -- taken at 36
        have c36' := i_le c36
        refine g_iload C 0 rfl dX7_then_44 ?_
        refine g_iload_n C 3 rfl dX7_then_46 ?_
        refine g_iadd C dX7_then_47 ?_
        have ta_6 : ((nI q) + (nI k)).toInt = (nI q).toInt + (nI k).toInt := t_add (by omega) (by omega)
        refine g_iret C hr rfl hlk dX7_then_48 ?_
        have hp : pasF f k t q < 40 := by unfold pasF; (repeat' split) <;> omega
        exact ⟨i_inj (by rw [nI_toInt (n := pasF f k t q) (by omega)]; unfold pasF; (repeat' split) <;> omega), rfl⟩
      · -- not taken at 36
        have c36' := i_nle c36
        refine g_iload C 0 rfl dX7_then_39 ?_
        refine g_goto C 48 (by decide) dX7_then_41 ?_
        refine g_iret C hr rfl hlk dX7_then_48 ?_
        have hp : pasF f k t q < 40 := by unfold pasF; (repeat' split) <;> omega
        exact ⟨i_inj (by rw [nI_toInt (n := pasF f k t q) (by omega)]; unfold pasF; (repeat' split) <;> omega), rfl⟩
  · -- not taken at 10
    have c10' := bI_t c10
    refine g_iload_n C 0 rfl dX7_then_13 ?_
    refine g_iload_n C 1 rfl dX7_then_14 ?_
    refine g_isub C dX7_then_15 ?_
    have ta_7 : ((nI q) - (nI f)).toInt = (nI q).toInt - (nI f).toInt := t_sub (by omega) (by omega)
    refine g_iload_n C 3 rfl dX7_then_16 ?_
    refine g_iadd C dX7_then_17 ?_
    have ta_8 : (((nI q) - (nI f)) + (nI t)).toInt = ((nI q) - (nI f)).toInt + (nI t).toInt := t_add (by omega) (by omega)
    refine g_iret C hr rfl hlk dX7_then_18 ?_
    have hp : pasF f k t q < 40 := by unfold pasF; (repeat' split) <;> omega
    exact ⟨i_inj (by rw [nI_toInt (n := pasF f k t q) (by omega)]; unfold pasF; (repeat' split) <;> omega), rfl⟩
set_option maxRecDepth 100000 in
set_option maxHeartbeats 4000000 in
theorem c_X7_puts (l : Launch) (D : va_G) (kc : Nat → ClassId) (N : Nat) (adr : Nat → Nat) (cell : Nat → va_E) (S Wa Bg As tx : Nat → Int32) (st ty at' re : Int32) (nu mo sh : Nat → Int32) (σ : SD) (x w : Int32) (hB : MB cell adr kc S Wa Bg As st tx ty at' re nu mo sh) (hN : 9 ≤ N) (hS : MS S σ) (hG : Good σ) : MI l yX7_puts wsX7_puts ({ frames := 2, cells := 0, slots := 0, locals := 48 }) D kc N adr cell [.ref (adr 0), .int x, .int w] (fun (v : Int32) (cell1 : Nat → va_E) => putR σ x w = v ∧ ∃ S1 : Nat → Int32, MB cell1 adr kc S1 Wa Bg As st tx ty at' re nu mo sh ∧ MS S1 (nxS σ (putO σ x w))) := by
  refine met_i (cc := cX7_puts) (maxL := 4) (ret := (some .int)) (by decide) rfl (Nat.le_of_ble_eq_true rfl) (lv := [(0, .ref (adr 0)), (1, .int x), (2, .int w)]) rfl ?_
  intro Pg Ev Sv Mi args below Me Cd Ar C hr hlk hnm
  have in7 : ∀ w ∈ u_ws RX7 TX7 12, w ∈ wsX7_puts := by decide +kernel
  have f7 := C.2.2.2.2.1 (.fieldLink RX7 7 "WordAnchorsModel" "s" "[I") (by decide +kernel)
  have k43 := C.2.2.2.2.1 (.constant RX7 43 (-1000001)) (by decide +kernel)
  have k52 := C.2.2.2.2.1 (.constant RX7 52 (-1000003)) (by decide +kernel)
  have hB0 := hB
  obtain ⟨m0, m1, m2, m3, m4, m5, m6, m7, m8⟩ := hB
  have hg1 := hG.1
  have hg2 := hG.2.1
  have e0 := hS.1
  have e1 := hS.2.1
  have litm1000003 : ((-1000003) : Int32).toInt = -1000003 := rfl
  have litm1000001 : ((-1000001) : Int32).toInt = -1000001 := rfl
  have litm1 : ((-1) : Int32).toInt = -1 := rfl
  have lit0 : (0 : Int32).toInt = 0 := rfl
  have lit1 : (1 : Int32).toInt = 1 := rfl
  have lit2 : (2 : Int32).toInt = 2 := rfl
  have lit8 : (8 : Int32).toInt = 8 := rfl
  have lit40 : (40 : Int32).toInt = 40 := rfl
  have lit99 : (99 : Int32).toInt = 99 := rfl
  have tn___1 : (nI σ.1).toInt = ((σ.1 : Nat) : Int) := nI_toInt (by omega)
  have tn___2_1 : (nI σ.2.1).toInt = ((σ.2.1 : Nat) : Int) := nI_toInt (by omega)
  refine g_iload_n C 1 rfl dX7_puts_0 ?_
  refine g_iconst C 0 (by decide) dX7_puts_1 ?_
  refine g_aload_n C 0 rfl dX7_puts_2 ?_
  refine g_get C 0 7 0 (by omega) m0 rfl in7 (by decide) f7 (fun _ h9 => h9) rfl dX7_puts_3 ?_
  refine g_iconst C 0 (by decide) dX7_puts_6 ?_
  refine g_iald C 1 (by omega) m1 (vp_in_iff.mpr (by omega)) dX7_puts_7 ?_
  refine g_eqst (st1 := ([.int (S 0), .int 0, .int x] : List Value)) rfl ?_
  refine g_eqst (show ([.int (S 0), .int 0, .int x] : List Value) = ([.int (nI σ.1), .int 0, .int x] : List Value) from by rw [e0]) ?_
  refine g_Si C [.int x, .int 0, .int (nI σ.1)] (c_X7_in l D kc N adr cell x 0 (nI σ.1)) (va_cwS 3 C.2.2.2.2.1 gX7_puts_X7_in rfl rfl rfl (by decide +kernel) ⟨Nat.le_of_ble_eq_true rfl, Nat.le_of_ble_eq_true rfl⟩) rfl rfl (Nat.le_of_ble_eq_true rfl) (Nat.zero_le _) (Nat.zero_le _) dX7_puts_8 (fun v2 cell2 q2 => ?_)
  obtain ⟨rfl, rfl⟩ := q2
  refine g_if_eq C 24 (by decide) dX7_puts_11 (fun c11 => ?_) (fun c11 => ?_)
  · -- taken at 11
    have c11' := bI_f c11
    refine g_ldc C (-1000001) k43 dX7_puts_24 ?_
    refine g_iret C hr rfl hlk dX7_puts_26 ?_
    exact ⟨by unfold putR; exact if_pos (by omega), _, ⟨m0, m1, m2, m3, m4, m5, m6, m7, m8⟩, ms_no (by unfold putO; exact if_neg (by omega)) hS⟩
  · -- not taken at 11
    have c11' := bI_t c11
    refine g_iload_n C 2 rfl dX7_puts_14 ?_
    refine g_iconst C 0 (by decide) dX7_puts_15 ?_
    refine g_bipush C 99 (by decide) dX7_puts_16 ?_
    refine g_Si C [.int w, .int 0, .int 99] (c_X7_in l D kc N adr cell w 0 99) (va_cwS 3 C.2.2.2.2.1 gX7_puts_X7_in rfl rfl rfl (by decide +kernel) ⟨Nat.le_of_ble_eq_true rfl, Nat.le_of_ble_eq_true rfl⟩) rfl rfl (Nat.le_of_ble_eq_true rfl) (Nat.zero_le _) (Nat.zero_le _) dX7_puts_18 (fun v3 cell3 q3 => ?_)
    obtain ⟨rfl, rfl⟩ := q3
    refine g_if_ne C 27 (by decide) dX7_puts_21 (fun c21 => ?_) (fun c21 => ?_)
    · -- taken at 21
      have c21' := bI_t c21
      refine g_aload_n C 0 rfl dX7_puts_27 ?_
      refine g_get C 0 7 0 (by omega) m0 rfl in7 (by decide) f7 (fun _ h9 => h9) rfl dX7_puts_28 ?_
      refine g_iconst C 0 (by decide) dX7_puts_31 ?_
      refine g_iald C 1 (by omega) m1 (vp_in_iff.mpr (by omega)) dX7_puts_32 ?_
      refine g_eqst (st1 := ([.int (S 0)] : List Value)) rfl ?_
      refine g_eqst (show ([.int (S 0)] : List Value) = ([.int (nI σ.1)] : List Value) from by rw [e0]) ?_
      refine g_bipush C 40 (by decide) dX7_puts_33 ?_
      refine g_icmp_ne C 41 (by decide) dX7_puts_35 (fun c35 => ?_) (fun c35 => ?_)
      · -- taken at 35
        have c35' := i_ne c35
        have ez : x = nI x.toNatClampNeg := nI_cl (by omega)
        have kz := cl_toInt (x := x) (by omega)
        generalize hzz : x.toNatClampNeg = z at ez kz
        refine g_eqlv (lv1 := [(0, .ref (adr 0)), (1, .int (nI z)), (2, .int w)]) (congrArg (fun z0 : Int32 => ([(0, .ref (adr 0)), (1, .int z0), (2, .int w)] : List (Nat × Value))) ez) ?_
        refine g_aload_n C 0 rfl dX7_puts_41 ?_
        refine g_get C 0 7 0 (by omega) m0 rfl in7 (by decide) f7 (fun _ h9 => h9) rfl dX7_puts_42 ?_
        refine g_iconst C 0 (by decide) dX7_puts_45 ?_
        refine g_iald C 1 (by omega) m1 (vp_in_iff.mpr (by omega)) dX7_puts_46 ?_
        refine g_eqst (st1 := ([.int (S 0)] : List Value)) rfl ?_
        refine g_eqst (show ([.int (S 0)] : List Value) = ([.int (nI σ.1)] : List Value) from by rw [e0]) ?_
        refine g_istore_n C [(3, .int (nI σ.1)), (0, .ref (adr 0)), (1, .int (nI z)), (2, .int w)] (by decide) rfl dX7_puts_47 ?_
        have L48 : ∀ (fu i : Nat) (cl : Nat → va_E) (Sl : Nat → Int32), i ≤ (σ.1 - z) → (σ.1 - z) < i + fu → (q0 : cl 0 = .inr (7, [.ref (adr 1), .ref (adr 2), .ref (adr 3), .ref (adr 4), .int st, .ref (adr 5), .int ty, .int at', .int re, .ref (adr 6), .ref (adr 7), .ref (adr 8)])) → (q1 : cl 1 = .inl (kc 0, 90, .inl Sl)) → (q2 : cl 2 = .inl (kc 0, 360, .inl Wa)) → (q3 : cl 3 = .inl (kc 0, 90, .inl Bg)) → (q4 : cl 4 = .inl (kc 0, 90, .inl As)) → (q5 : cl 5 = .inl (kc 1, 60, .inl tx)) → (q6 : cl 6 = .inl (kc 0, 3, .inl nu)) → (q7 : cl 7 = .inl (kc 0, 40, .inl mo)) → (q8 : cl 8 = .inl (kc 0, 6, .inl sh)) → (hsl : ∀ j : Nat, Sl j = if 8 + (σ.1 - i) < j ∧ j ≤ 8 + σ.1 then S (j - 1) else S j) → G Pg l Ev (headSpec wsX7_puts { frames := 2, cells := 0, slots := 0, locals := 48 }).room Sv Mi args below Me Cd D N adr Ar Sv.heap 4 0 0 (MQ below (va_Qi (fun (v : Int32) (cell1 : Nat → va_E) => putR σ x w = v ∧ ∃ S1 : Nat → Int32, MB cell1 adr kc S1 Wa Bg As st tx ty at' re nu mo sh ∧ MS S1 (nxS σ (putO σ x w))) (fun (cell1 : Nat → va_E) (t : State) => va_P D vwCl (wld N adr cell1) t.heap) Ar) args Sv 0 0 Ar) cl 48 [(0, .ref (adr 0)), (1, .int (nI z)), (2, .int w), (3, .int (nI (σ.1 - i)))] ([] : List Value) := by
          intro fu
          induction fu with
          | zero => intro i cl Sl hle hfu; exact absurd hfu (by omega)
          | succ fu ih =>
            intro i cl Sl hle48 hfu48 q0 q1 q2 q3 q4 q5 q6 q7 q8 hsl
            have tn_d : (nI (σ.1 - i)).toInt = ((σ.1 - i : Nat) : Int) := nI_toInt (by omega)
            have tn_z : (nI z).toInt = ((z : Nat) : Int) := nI_toInt (by omega)
            refine g_iload_n C 3 rfl dX7_puts_48 ?_
            refine g_iload_n C 1 rfl dX7_puts_49 ?_
            refine g_icmp_le C 79 (by decide) dX7_puts_50 (fun c50 => ?_) (fun c50 => ?_)
            · -- taken at 50
              have c50' := i_le c50
              have hie : i = σ.1 - z := by omega
              refine g_aload_n C 0 rfl dX7_puts_79 ?_
              refine g_get C 0 7 0 (by omega) q0 rfl in7 (by decide) f7 (fun _ h9 => h9) rfl dX7_puts_80 ?_
              refine g_bipush C 8 (by decide) dX7_puts_83 ?_
              refine g_iload_n C 1 rfl dX7_puts_85 ?_
              refine g_iadd C dX7_puts_86 ?_
              refine g_eqst (st1 := ([.int (nI (8 + z)), .ref (adr 1)] : List Value)) (congrArg (fun z0 : Int32 => (([.int z0, .ref (adr 1)] : List Value))) (mI_add 8 z)) ?_
              refine g_iload_n C 2 rfl dX7_puts_87 ?_
              refine g_iast C 1 (by omega) q1 (vp_in_nI (by omega) (by omega)) dX7_puts_88 ?_
              refine g_cell (fun cell6 ec6 => ?_)
              have h_7 : cell6 0 = .inr (7, [.ref (adr 1), .ref (adr 2), .ref (adr 3), .ref (adr 4), .int st, .ref (adr 5), .int ty, .int at', .int re, .ref (adr 6), .ref (adr 7), .ref (adr 8)]) := by rw [ec6, va_up_ne _ _ (by omega)]; exact q0
              have h_8 : cell6 1 = .inl (kc 0, 90, .inl (upd Sl (nI (8 + z)).toNatClampNeg w)) := by rw [ec6]; exact va_up_self _ _ _
              have h_9 : cell6 2 = .inl (kc 0, 360, .inl Wa) := by rw [ec6, va_up_ne _ _ (by omega)]; exact q2
              have h_10 : cell6 3 = .inl (kc 0, 90, .inl Bg) := by rw [ec6, va_up_ne _ _ (by omega)]; exact q3
              have h_11 : cell6 4 = .inl (kc 0, 90, .inl As) := by rw [ec6, va_up_ne _ _ (by omega)]; exact q4
              have h_12 : cell6 5 = .inl (kc 1, 60, .inl tx) := by rw [ec6, va_up_ne _ _ (by omega)]; exact q5
              have h_13 : cell6 6 = .inl (kc 0, 3, .inl nu) := by rw [ec6, va_up_ne _ _ (by omega)]; exact q6
              have h_14 : cell6 7 = .inl (kc 0, 40, .inl mo) := by rw [ec6, va_up_ne _ _ (by omega)]; exact q7
              have h_15 : cell6 8 = .inl (kc 0, 6, .inl sh) := by rw [ec6, va_up_ne _ _ (by omega)]; exact q8
              have h_17 : cell6 1 = .inl (kc 0, 90, .inl (upd Sl (8 + z) w)) := by rw [h_8, nI_clamp (by omega)]
              refine g_aload_n C 0 rfl dX7_puts_89 ?_
              refine g_get C 0 7 0 (by omega) h_7 rfl in7 (by decide) f7 (fun _ h9 => h9) rfl dX7_puts_90 ?_
              refine g_iconst C 0 (by decide) dX7_puts_93 ?_
              refine g_dup2 C rfl rfl dX7_puts_94 ?_
              refine g_iald C 1 (by omega) h_17 (vp_in_iff.mpr (by omega)) dX7_puts_95 ?_
              refine g_eqst (st1 := ([.int ((upd Sl (8 + z) w) 0), .int 0, .ref (adr 1)] : List Value)) rfl ?_
              refine g_eqst (show ([.int ((upd Sl (8 + z) w) 0), .int 0, .ref (adr 1)] : List Value) = ([.int (nI (σ.1)), .int 0, .ref (adr 1)] : List Value) from by rw [upd_n (by omega), hsl, if_neg (by omega), e0]) ?_
              refine g_iconst C 1 (by decide) dX7_puts_96 ?_
              refine g_iadd C dX7_puts_97 ?_
              refine g_eqst (st1 := ([.int (nI (σ.1 + 1)), .int 0, .ref (adr 1)] : List Value)) (congrArg (fun z0 : Int32 => (([.int z0, .int 0, .ref (adr 1)] : List Value))) (mI_add (σ.1) 1)) ?_
              refine g_iast C 1 (by omega) h_17 (vp_in_iff.mpr (by omega)) dX7_puts_98 ?_
              refine g_cell (fun cell19 ec19 => ?_)
              have h_20 : cell19 0 = .inr (7, [.ref (adr 1), .ref (adr 2), .ref (adr 3), .ref (adr 4), .int st, .ref (adr 5), .int ty, .int at', .int re, .ref (adr 6), .ref (adr 7), .ref (adr 8)]) := by rw [ec19, va_up_ne _ _ (by omega)]; exact h_7
              have h_21 : cell19 1 = .inl (kc 0, 90, .inl (upd (upd Sl (8 + z) w) (0 : Int32).toNatClampNeg (nI (σ.1 + 1)))) := by rw [ec19]; exact va_up_self _ _ _
              have h_22 : cell19 2 = .inl (kc 0, 360, .inl Wa) := by rw [ec19, va_up_ne _ _ (by omega)]; exact h_9
              have h_23 : cell19 3 = .inl (kc 0, 90, .inl Bg) := by rw [ec19, va_up_ne _ _ (by omega)]; exact h_10
              have h_24 : cell19 4 = .inl (kc 0, 90, .inl As) := by rw [ec19, va_up_ne _ _ (by omega)]; exact h_11
              have h_25 : cell19 5 = .inl (kc 1, 60, .inl tx) := by rw [ec19, va_up_ne _ _ (by omega)]; exact h_12
              have h_26 : cell19 6 = .inl (kc 0, 3, .inl nu) := by rw [ec19, va_up_ne _ _ (by omega)]; exact h_13
              have h_27 : cell19 7 = .inl (kc 0, 40, .inl mo) := by rw [ec19, va_up_ne _ _ (by omega)]; exact h_14
              have h_28 : cell19 8 = .inl (kc 0, 6, .inl sh) := by rw [ec19, va_up_ne _ _ (by omega)]; exact h_15
              have h_30 : cell19 1 = .inl (kc 0, 90, .inl (upd (upd Sl (8 + z) w) 0 (nI (σ.1 + 1)))) := h_21.trans (congrArg (fun z0 : Nat => (.inl (kc 0, 90, .inl (upd (upd Sl (8 + z) w) z0 (nI (σ.1 + 1)))) : va_E)) (show (0 : Int32).toNatClampNeg = 0 by decide))
              refine g_aload_n C 0 rfl dX7_puts_99 ?_
              refine g_get C 0 7 0 (by omega) h_20 rfl in7 (by decide) f7 (fun _ h9 => h9) rfl dX7_puts_100 ?_
              refine g_iconst C 2 (by decide) dX7_puts_103 ?_
              refine g_dup2 C rfl rfl dX7_puts_104 ?_
              refine g_iald C 1 (by omega) h_30 (vp_in_iff.mpr (by omega)) dX7_puts_105 ?_
              refine g_eqst (st1 := ([.int ((upd (upd Sl (8 + z) w) 0 (nI (σ.1 + 1))) 2), .int 2, .ref (adr 1)] : List Value)) rfl ?_
              refine g_eqst (show ([.int ((upd (upd Sl (8 + z) w) 0 (nI (σ.1 + 1))) 2), .int 2, .ref (adr 1)] : List Value) = ([.int (S 2), .int 2, .ref (adr 1)] : List Value) from by rw [upd_n (by omega), upd_n (by omega), hsl, if_neg (by omega)]) ?_
              refine g_iconst C 1 (by decide) dX7_puts_106 ?_
              refine g_iadd C dX7_puts_107 ?_
              refine g_iast C 1 (by omega) h_30 (vp_in_iff.mpr (by omega)) dX7_puts_108 ?_
              refine g_cell (fun cell32 ec32 => ?_)
              have h_33 : cell32 0 = .inr (7, [.ref (adr 1), .ref (adr 2), .ref (adr 3), .ref (adr 4), .int st, .ref (adr 5), .int ty, .int at', .int re, .ref (adr 6), .ref (adr 7), .ref (adr 8)]) := by rw [ec32, va_up_ne _ _ (by omega)]; exact h_20
              have h_34 : cell32 1 = .inl (kc 0, 90, .inl (upd (upd (upd Sl (8 + z) w) 0 (nI (σ.1 + 1))) (2 : Int32).toNatClampNeg ((S 2) + 1))) := by rw [ec32]; exact va_up_self _ _ _
              have h_35 : cell32 2 = .inl (kc 0, 360, .inl Wa) := by rw [ec32, va_up_ne _ _ (by omega)]; exact h_22
              have h_36 : cell32 3 = .inl (kc 0, 90, .inl Bg) := by rw [ec32, va_up_ne _ _ (by omega)]; exact h_23
              have h_37 : cell32 4 = .inl (kc 0, 90, .inl As) := by rw [ec32, va_up_ne _ _ (by omega)]; exact h_24
              have h_38 : cell32 5 = .inl (kc 1, 60, .inl tx) := by rw [ec32, va_up_ne _ _ (by omega)]; exact h_25
              have h_39 : cell32 6 = .inl (kc 0, 3, .inl nu) := by rw [ec32, va_up_ne _ _ (by omega)]; exact h_26
              have h_40 : cell32 7 = .inl (kc 0, 40, .inl mo) := by rw [ec32, va_up_ne _ _ (by omega)]; exact h_27
              have h_41 : cell32 8 = .inl (kc 0, 6, .inl sh) := by rw [ec32, va_up_ne _ _ (by omega)]; exact h_28
              have h_43 : cell32 1 = .inl (kc 0, 90, .inl (upd (upd (upd Sl (8 + z) w) 0 (nI (σ.1 + 1))) 2 ((S 2) + 1))) := h_34.trans (congrArg (fun z0 : Nat => (.inl (kc 0, 90, .inl (upd (upd (upd Sl (8 + z) w) 0 (nI (σ.1 + 1))) z0 ((S 2) + 1))) : va_E)) (show (2 : Int32).toNatClampNeg = 2 by decide))
              have hm1 : (upd (upd (upd Sl (8 + z) w) 0 (nI (σ.1 + 1))) 2 ((S 2) + 1)) 1 = nI σ.2.1 := by rw [upd_n (by omega), upd_n (by omega), upd_n (by omega), hsl, if_neg (by omega), e1]
              refine g_aload_n C 0 rfl dX7_puts_109 ?_
              refine g_iload_n C 1 rfl dX7_puts_110 ?_
              refine g_iconst C 1 (by decide) dX7_puts_111 ?_
              refine g_iconst C 0 (by decide) dX7_puts_112 ?_
              refine g_Vv C [.int (nI z), .int 1, .int 0] 0 7 (by omega) h_33 rfl (c_X7_follows l D kc N adr cell32 (upd (upd (upd Sl (8 + z) w) 0 (nI (σ.1 + 1))) 2 ((S 2) + 1)) Wa Bg As tx st ty at' re nu mo sh σ.2.1 z 1 0 ⟨h_33, h_43, h_35, h_36, h_37, h_38, h_39, h_40, h_41⟩ (by omega) hm1 hg2 (by omega)) (cwV 3 C.2.2.2.2.1 gX7_puts_X7_follows rfl rfl rfl (by decide +kernel) ⟨Nat.le_of_ble_eq_true rfl, Nat.le_of_ble_eq_true rfl⟩) rfl rfl (Nat.le_of_ble_eq_true rfl) (Nat.zero_le _) (Nat.zero_le _) dX7_puts_113 (fun cell44 q44 => ?_)
              obtain ⟨S1, ⟨h_45, h_46, h_47, h_48, h_49, h_50, h_51, h_52, h_53⟩, hf1, hf2⟩ := q44
              have hb0 : (upd (upd (upd Sl (8 + z) w) 0 (nI (σ.1 + 1))) 2 ((S 2) + 1)) 0 = nI (σ.1 + 1) := by rw [upd_n (by omega), upd_s]
              have hb2 : (upd (upd (upd Sl (8 + z) w) 0 (nI (σ.1 + 1))) 2 ((S 2) + 1)) 2 = S 2 + 1 := upd_s
              have hbW : ∀ p : Nat, p < σ.1 + 1 → (upd (upd (upd Sl (8 + z) w) 0 (nI (σ.1 + 1))) 2 ((S 2) + 1)) (8 + p) = insW z w σ.2.2.2.1 p := fun p hp => by
                rw [upd_n (by omega), upd_n (by omega)]
                unfold insW
                by_cases c1 : p = z
                · rw [c1, upd_s, if_neg (by omega), if_pos rfl]
                · rw [upd_n (by omega), hsl]
                  by_cases c2 : p < z
                  · rw [if_neg (by omega), if_pos c2]; exact hS.2.2.2.2.1 p (by omega)
                  · rw [if_pos (by omega), if_neg c2, if_neg c1]; exact (congrArg S (by omega : 8 + p - 1 = 8 + (p - 1))).trans (hS.2.2.2.2.1 (p - 1) (by omega))
              have hbo : ∀ j : Nat, j ≠ 0 → j ≠ 2 → (j < 8 ∨ 48 ≤ j) → (upd (upd (upd Sl (8 + z) w) 0 (nI (σ.1 + 1))) 2 ((S 2) + 1)) j = S j := fun j h0 h2 hj => by rw [upd_n h2, upd_n h0, upd_n (by omega), hsl, if_neg (by omega)]
              have hms : MS S1 (insD z w σ) := ms_fol hS (by omega) hb0 hb2 hbW hbo hf1 hf2 (fun k hk => flw_ins (vt_lt hG hk))
              refine g_aload_n C 0 rfl dX7_puts_116 ?_
              refine g_get C 0 7 0 (by omega) h_45 rfl in7 (by decide) f7 (fun _ h9 => h9) rfl dX7_puts_117 ?_
              refine g_iconst C 0 (by decide) dX7_puts_120 ?_
              refine g_iald C 1 (by omega) h_46 (vp_in_iff.mpr (by omega)) dX7_puts_121 ?_
              refine g_eqst (st1 := ([.int (S1 0)] : List Value)) rfl ?_
              refine g_eqst (show ([.int (S1 0)] : List Value) = ([.int (nI (σ.1 + 1))] : List Value) from by rw [show S1 0 = nI (σ.1 + 1) from hms.1]) ?_
              refine g_iret C hr rfl hlk dX7_puts_122 ?_
              exact ⟨by unfold putR; rw [if_neg (by omega), if_neg (by omega)], _, ⟨h_45, h_46, h_47, h_48, h_49, h_50, h_51, h_52, h_53⟩, ms_yes (by unfold putO; rw [hzz]; exact if_pos (by omega)) hms⟩
            · -- not taken at 50
              have c50' := i_nle c50
              refine g_aload_n C 0 rfl dX7_puts_53 ?_
              refine g_get C 0 7 0 (by omega) q0 rfl in7 (by decide) f7 (fun _ h9 => h9) rfl dX7_puts_54 ?_
              refine g_bipush C 8 (by decide) dX7_puts_57 ?_
              refine g_iload_n C 3 rfl dX7_puts_59 ?_
              refine g_iadd C dX7_puts_60 ?_
              refine g_eqst (st1 := ([.int (nI (8 + (σ.1 - i))), .ref (adr 1)] : List Value)) (congrArg (fun z0 : Int32 => (([.int z0, .ref (adr 1)] : List Value))) (mI_add 8 (σ.1 - i))) ?_
              refine g_aload_n C 0 rfl dX7_puts_61 ?_
              refine g_get C 0 7 0 (by omega) q0 rfl in7 (by decide) f7 (fun _ h9 => h9) rfl dX7_puts_62 ?_
              refine g_bipush C 8 (by decide) dX7_puts_65 ?_
              refine g_iload_n C 3 rfl dX7_puts_67 ?_
              refine g_iadd C dX7_puts_68 ?_
              refine g_eqst (st1 := ([.int (nI (8 + (σ.1 - i))), .ref (adr 1), .int (nI (8 + (σ.1 - i))), .ref (adr 1)] : List Value)) (congrArg (fun z0 : Int32 => (([.int z0, .ref (adr 1), .int (nI (8 + (σ.1 - i))), .ref (adr 1)] : List Value))) (mI_add 8 (σ.1 - i))) ?_
              refine g_iconst C 1 (by decide) dX7_puts_69 ?_
              refine g_isub C dX7_puts_70 ?_
              refine g_eqst (show ([.int ((nI (8 + (σ.1 - i))) - 1), .ref (adr 1), .int (nI (8 + (σ.1 - i))), .ref (adr 1)] : List Value) = ([.int (nI (8 + (σ.1 - i) - 1)), .ref (adr 1), .int (nI (8 + (σ.1 - i))), .ref (adr 1)] : List Value) from by rw [show nI (8 + (σ.1 - i)) - 1 = nI (8 + (σ.1 - i) - 1) from pk_sub (b := 1) (by omega)]) ?_
              refine g_iald C 1 (by omega) q1 (vp_in_nI (by omega) (by omega)) dX7_puts_71 ?_
              refine g_eqst (show ([.int (Sl (nI (8 + (σ.1 - i) - 1)).toNatClampNeg), .int (nI (8 + (σ.1 - i))), .ref (adr 1)] : List Value) = ([.int (Sl (8 + (σ.1 - i) - 1)), .int (nI (8 + (σ.1 - i))), .ref (adr 1)] : List Value) from by rw [nI_clamp (by omega)]) ?_
              refine g_iast C 1 (by omega) q1 (vp_in_nI (by omega) (by omega)) dX7_puts_72 ?_
              refine g_cell (fun cell56 ec56 => ?_)
              have h_57 : cell56 0 = .inr (7, [.ref (adr 1), .ref (adr 2), .ref (adr 3), .ref (adr 4), .int st, .ref (adr 5), .int ty, .int at', .int re, .ref (adr 6), .ref (adr 7), .ref (adr 8)]) := by rw [ec56, va_up_ne _ _ (by omega)]; exact q0
              have h_58 : cell56 1 = .inl (kc 0, 90, .inl (upd Sl (nI (8 + (σ.1 - i))).toNatClampNeg (Sl (8 + (σ.1 - i) - 1)))) := by rw [ec56]; exact va_up_self _ _ _
              have h_59 : cell56 2 = .inl (kc 0, 360, .inl Wa) := by rw [ec56, va_up_ne _ _ (by omega)]; exact q2
              have h_60 : cell56 3 = .inl (kc 0, 90, .inl Bg) := by rw [ec56, va_up_ne _ _ (by omega)]; exact q3
              have h_61 : cell56 4 = .inl (kc 0, 90, .inl As) := by rw [ec56, va_up_ne _ _ (by omega)]; exact q4
              have h_62 : cell56 5 = .inl (kc 1, 60, .inl tx) := by rw [ec56, va_up_ne _ _ (by omega)]; exact q5
              have h_63 : cell56 6 = .inl (kc 0, 3, .inl nu) := by rw [ec56, va_up_ne _ _ (by omega)]; exact q6
              have h_64 : cell56 7 = .inl (kc 0, 40, .inl mo) := by rw [ec56, va_up_ne _ _ (by omega)]; exact q7
              have h_65 : cell56 8 = .inl (kc 0, 6, .inl sh) := by rw [ec56, va_up_ne _ _ (by omega)]; exact q8
              have h_67 : cell56 1 = .inl (kc 0, 90, .inl (upd Sl (8 + (σ.1 - i)) (Sl (8 + (σ.1 - i) - 1)))) := by rw [h_58, nI_clamp (by omega)]
              refine g_iinc C 3 [(3, .int ((nI (σ.1 - i)) + (-1))), (0, .ref (adr 0)), (1, .int (nI z)), (2, .int w)] rfl (congrArg (fun z0 : Int32 => (nI (σ.1 - i)) + z0) (by decide)) (by decide) rfl dX7_puts_73 ?_
              refine g_goto C 48 (by decide) dX7_puts_76 ?_
              have hb : ∀ j : Nat, (upd Sl (8 + (σ.1 - i)) (Sl (8 + (σ.1 - i) - 1))) j = if 8 + (σ.1 - (i + 1)) < j ∧ j ≤ 8 + σ.1 then S (j - 1) else S j := fun j => by
                by_cases e : j = 8 + (σ.1 - i)
                · rw [e, upd_s, hsl, if_neg (by omega), if_pos (by omega)]
                · rw [upd_n e, hsl]
                  by_cases c : 8 + (σ.1 - i) < j ∧ j ≤ 8 + σ.1
                  · rw [if_pos c, if_pos (by omega)]
                  · rw [if_neg c, if_neg (by omega)]
              refine g_sub [1, 2, 3, 0] rfl ?_
              have ev_68 : (nI (σ.1 - i)) + (-1) = nI (σ.1 - (i + 1)) := by exact (dec_nI (by omega)).trans (congrArg nI (by omega))
              refine g_eqlv (lv1 := [(0, .ref (adr 0)), (1, .int (nI z)), (2, .int w), (3, .int (nI (σ.1 - (i + 1))))]) (congrArg (fun z0 : Int32 => ([(0, .ref (adr 0)), (1, .int (nI z)), (2, .int w), (3, .int z0)] : List (Nat × Value))) ev_68) ?_
              exact ih (i + 1) _ _ (by omega) (by omega) h_57 h_67 h_59 h_60 h_61 h_62 h_63 h_64 h_65 hb
        refine g_sub [1, 2, 3, 0] rfl ?_
        have ev_69 : nI σ.1 = nI (σ.1 - 0) := by rfl
        refine g_eqlv (lv1 := [(0, .ref (adr 0)), (1, .int (nI z)), (2, .int w), (3, .int (nI (σ.1 - 0)))]) (congrArg (fun z0 : Int32 => ([(0, .ref (adr 0)), (1, .int (nI z)), (2, .int w), (3, .int z0)] : List (Nat × Value))) ev_69) ?_
        exact L48 ((σ.1 - z) + 1) 0 _ _ (by omega) (by omega) m0 m1 m2 m3 m4 m5 m6 m7 m8 (fun j => (if_neg (by omega)).symm)
      · -- not taken at 35
        have c35' := i_eq c35
        refine g_ldc C (-1000003) k52 dX7_puts_38 ?_
        refine g_iret C hr rfl hlk dX7_puts_40 ?_
        exact ⟨by unfold putR; rw [if_neg (by omega), if_pos (by omega)], _, ⟨m0, m1, m2, m3, m4, m5, m6, m7, m8⟩, ms_no (by unfold putO; exact if_neg (by omega)) hS⟩
    · -- not taken at 21
      have c21' := bI_f c21
      refine g_ldc C (-1000001) k43 dX7_puts_24 ?_
      refine g_iret C hr rfl hlk dX7_puts_26 ?_
      exact ⟨by unfold putR; exact if_pos (by omega), _, ⟨m0, m1, m2, m3, m4, m5, m6, m7, m8⟩, ms_no (by unfold putO; exact if_neg (by omega)) hS⟩
set_option maxRecDepth 100000 in
set_option maxHeartbeats 4000000 in
theorem c_X7_takes (l : Launch) (D : va_G) (kc : Nat → ClassId) (N : Nat) (adr : Nat → Nat) (cell : Nat → va_E) (S Wa Bg As tx : Nat → Int32) (st ty at' re : Int32) (nu mo sh : Nat → Int32) (σ : SD) (x : Int32) (hB : MB cell adr kc S Wa Bg As st tx ty at' re nu mo sh) (hN : 9 ≤ N) (hS : MS S σ) (hG : Good σ) : MI l yX7_takes wsX7_takes ({ frames := 2, cells := 0, slots := 0, locals := 48 }) D kc N adr cell [.ref (adr 0), .int x] (fun (v : Int32) (cell1 : Nat → va_E) => takeR σ x = v ∧ ∃ S1 : Nat → Int32, MB cell1 adr kc S1 Wa Bg As st tx ty at' re nu mo sh ∧ MS S1 (nxS σ (takeO σ x))) := by
  refine met_i (cc := cX7_takes) (maxL := 4) (ret := (some .int)) (by decide) rfl (Nat.le_of_ble_eq_true rfl) (lv := [(0, .ref (adr 0)), (1, .int x)]) rfl ?_
  intro Pg Ev Sv Mi args below Me Cd Ar C hr hlk hnm
  have in7 : ∀ w ∈ u_ws RX7 TX7 12, w ∈ wsX7_takes := by decide +kernel
  have f7 := C.2.2.2.2.1 (.fieldLink RX7 7 "WordAnchorsModel" "s" "[I") (by decide +kernel)
  have k43 := C.2.2.2.2.1 (.constant RX7 43 (-1000001)) (by decide +kernel)
  have hB0 := hB
  obtain ⟨m0, m1, m2, m3, m4, m5, m6, m7, m8⟩ := hB
  have hg1 := hG.1
  have hg2 := hG.2.1
  have e0 := hS.1
  have e1 := hS.2.1
  have litm1000001 : ((-1000001) : Int32).toInt = -1000001 := rfl
  have litm1 : ((-1) : Int32).toInt = -1 := rfl
  have lit0 : (0 : Int32).toInt = 0 := rfl
  have lit1 : (1 : Int32).toInt = 1 := rfl
  have lit2 : (2 : Int32).toInt = 2 := rfl
  have lit8 : (8 : Int32).toInt = 8 := rfl
  have tn___1 : (nI σ.1).toInt = ((σ.1 : Nat) : Int) := nI_toInt (by omega)
  have tn___2_1 : (nI σ.2.1).toInt = ((σ.2.1 : Nat) : Int) := nI_toInt (by omega)
  refine g_aload_n C 0 rfl dX7_takes_0 ?_
  refine g_iload_n C 1 rfl dX7_takes_1 ?_
  refine g_Vi C [.int x] 0 7 (by omega) m0 rfl (c_X7_isPlace l D kc N adr cell S Wa Bg As tx st ty at' re nu mo sh σ x ⟨m0, m1, m2, m3, m4, m5, m6, m7, m8⟩ (by omega) hS hG.1 hG.2.1) (cwV 1 C.2.2.2.2.1 gX7_takes_X7_isPlace rfl rfl rfl (by decide +kernel) ⟨Nat.le_of_ble_eq_true rfl, Nat.le_of_ble_eq_true rfl⟩) rfl rfl (Nat.le_of_ble_eq_true rfl) (Nat.zero_le _) (Nat.zero_le _) dX7_takes_2 (fun v1 cell1 q1 => ?_)
  obtain ⟨rfl, rfl⟩ := q1
  refine g_if_ne C 11 (by decide) dX7_takes_5 (fun c5 => ?_) (fun c5 => ?_)
  · -- taken at 5
    have c5' := bI_t c5
    have ez : x = nI x.toNatClampNeg := nI_cl (by omega)
    have kz := cl_toInt (x := x) (by omega)
    generalize hzz : x.toNatClampNeg = z at ez kz
    refine g_eqlv (lv1 := [(0, .ref (adr 0)), (1, .int (nI z))]) (congrArg (fun z0 : Int32 => ([(0, .ref (adr 0)), (1, .int z0)] : List (Nat × Value))) ez) ?_
    refine g_aload_n C 0 rfl dX7_takes_11 ?_
    refine g_get C 0 7 0 (by omega) m0 rfl in7 (by decide) f7 (fun _ h9 => h9) rfl dX7_takes_12 ?_
    refine g_bipush C 8 (by decide) dX7_takes_15 ?_
    refine g_iload_n C 1 rfl dX7_takes_17 ?_
    refine g_iadd C dX7_takes_18 ?_
    refine g_eqst (st1 := ([.int (nI (8 + z)), .ref (adr 1)] : List Value)) (congrArg (fun z0 : Int32 => (([.int z0, .ref (adr 1)] : List Value))) (mI_add 8 z)) ?_
    refine g_iald C 1 (by omega) m1 (vp_in_nI (by omega) (by omega)) dX7_takes_19 ?_
    refine g_eqst (show ([.int (S (nI (8 + z)).toNatClampNeg)] : List Value) = ([.int (S (8 + z))] : List Value) from by rw [nI_clamp (by omega)]) ?_
    refine g_eqst (show ([.int (S (8 + z))] : List Value) = ([.int (σ.2.2.2.1 z)] : List Value) from by rw [hS.2.2.2.2.1 z (by omega)]) ?_
    refine g_istore_n C [(2, .int (σ.2.2.2.1 z)), (0, .ref (adr 0)), (1, .int (nI z))] (by decide) rfl dX7_takes_20 ?_
    refine g_aload_n C 1 rfl dX7_takes_21 ?_
    refine g_get C 0 7 0 (by omega) m0 rfl in7 (by decide) f7 (fun _ h9 => h9) rfl dX7_takes_22 ?_
    refine g_iconst C 0 (by decide) dX7_takes_25 ?_
    refine g_dup2 C rfl rfl dX7_takes_26 ?_
    refine g_iald C 1 (by omega) m1 (vp_in_iff.mpr (by omega)) dX7_takes_27 ?_
    refine g_eqst (st1 := ([.int (S 0), .int 0, .ref (adr 1)] : List Value)) rfl ?_
    refine g_eqst (show ([.int (S 0), .int 0, .ref (adr 1)] : List Value) = ([.int (nI (σ.1)), .int 0, .ref (adr 1)] : List Value) from by rw [e0]) ?_
    refine g_iconst C 1 (by decide) dX7_takes_28 ?_
    refine g_isub C dX7_takes_29 ?_
    refine g_eqst (show ([.int ((nI (σ.1)) - 1), .int 0, .ref (adr 1)] : List Value) = ([.int (nI (σ.1 - 1)), .int 0, .ref (adr 1)] : List Value) from by rw [show nI (σ.1) - 1 = nI (σ.1 - 1) from pk_sub (b := 1) (by omega)]) ?_
    refine g_iast C 1 (by omega) m1 (vp_in_iff.mpr (by omega)) dX7_takes_30 ?_
    refine g_cell (fun cell5 ec5 => ?_)
    have h_6 : cell5 0 = .inr (7, [.ref (adr 1), .ref (adr 2), .ref (adr 3), .ref (adr 4), .int st, .ref (adr 5), .int ty, .int at', .int re, .ref (adr 6), .ref (adr 7), .ref (adr 8)]) := by rw [ec5, va_up_ne _ _ (by omega)]; exact m0
    have h_7 : cell5 1 = .inl (kc 0, 90, .inl (upd S (0 : Int32).toNatClampNeg (nI (σ.1 - 1)))) := by rw [ec5]; exact va_up_self _ _ _
    have h_8 : cell5 2 = .inl (kc 0, 360, .inl Wa) := by rw [ec5, va_up_ne _ _ (by omega)]; exact m2
    have h_9 : cell5 3 = .inl (kc 0, 90, .inl Bg) := by rw [ec5, va_up_ne _ _ (by omega)]; exact m3
    have h_10 : cell5 4 = .inl (kc 0, 90, .inl As) := by rw [ec5, va_up_ne _ _ (by omega)]; exact m4
    have h_11 : cell5 5 = .inl (kc 1, 60, .inl tx) := by rw [ec5, va_up_ne _ _ (by omega)]; exact m5
    have h_12 : cell5 6 = .inl (kc 0, 3, .inl nu) := by rw [ec5, va_up_ne _ _ (by omega)]; exact m6
    have h_13 : cell5 7 = .inl (kc 0, 40, .inl mo) := by rw [ec5, va_up_ne _ _ (by omega)]; exact m7
    have h_14 : cell5 8 = .inl (kc 0, 6, .inl sh) := by rw [ec5, va_up_ne _ _ (by omega)]; exact m8
    have h_16 : cell5 1 = .inl (kc 0, 90, .inl (upd S 0 (nI (σ.1 - 1)))) := h_7.trans (congrArg (fun z0 : Nat => (.inl (kc 0, 90, .inl (upd S z0 (nI (σ.1 - 1)))) : va_E)) (show (0 : Int32).toNatClampNeg = 0 by decide))
    refine g_iload_n C 2 rfl dX7_takes_31 ?_
    refine g_istore_n C [(3, .int (nI z)), (2, .int (σ.2.2.2.1 z)), (0, .ref (adr 0)), (1, .int (nI z))] (by decide) rfl dX7_takes_32 ?_
    have L33 : ∀ (fu p : Nat) (cl : Nat → va_E) (Sl : Nat → Int32), p ≤ (σ.1 - 1) → (σ.1 - 1) < p + fu → (q0 : cl 0 = .inr (7, [.ref (adr 1), .ref (adr 2), .ref (adr 3), .ref (adr 4), .int st, .ref (adr 5), .int ty, .int at', .int re, .ref (adr 6), .ref (adr 7), .ref (adr 8)])) → (q1 : cl 1 = .inl (kc 0, 90, .inl Sl)) → (q2 : cl 2 = .inl (kc 0, 360, .inl Wa)) → (q3 : cl 3 = .inl (kc 0, 90, .inl Bg)) → (q4 : cl 4 = .inl (kc 0, 90, .inl As)) → (q5 : cl 5 = .inl (kc 1, 60, .inl tx)) → (q6 : cl 6 = .inl (kc 0, 3, .inl nu)) → (q7 : cl 7 = .inl (kc 0, 40, .inl mo)) → (q8 : cl 8 = .inl (kc 0, 6, .inl sh)) → (hsl : ∀ j : Nat, Sl j = if 8 + z ≤ j ∧ j < 8 + p then S (j + 1) else if j = 0 then nI (σ.1 - 1) else S j) → (hzp : z ≤ p) → G Pg l Ev (headSpec wsX7_takes { frames := 2, cells := 0, slots := 0, locals := 48 }).room Sv Mi args below Me Cd D N adr Ar Sv.heap 4 0 0 (MQ below (va_Qi (fun (v : Int32) (cell1 : Nat → va_E) => takeR σ x = v ∧ ∃ S1 : Nat → Int32, MB cell1 adr kc S1 Wa Bg As st tx ty at' re nu mo sh ∧ MS S1 (nxS σ (takeO σ x))) (fun (cell1 : Nat → va_E) (t : State) => va_P D vwCl (wld N adr cell1) t.heap) Ar) args Sv 0 0 Ar) cl 33 [(0, .ref (adr 0)), (1, .int (nI z)), (2, .int (σ.2.2.2.1 z)), (3, .int (nI p))] ([] : List Value) := by
      intro fu
      induction fu with
      | zero => intro p cl Sl hle hfu; exact absurd hfu (by omega)
      | succ fu ih =>
        intro p cl Sl hle33 hfu33 q0 q1 q2 q3 q4 q5 q6 q7 q8 hsl hzp
        have tn_e : (nI (σ.1 - 1)).toInt = ((σ.1 - 1 : Nat) : Int) := nI_toInt (by omega)
        have tn_p : (nI p).toInt = ((p : Nat) : Int) := nI_toInt (by omega)
        refine g_iload_n C 3 rfl dX7_takes_33 ?_
        refine g_aload_n C 0 rfl dX7_takes_34 ?_
        refine g_get C 0 7 0 (by omega) q0 rfl in7 (by decide) f7 (fun _ h9 => h9) rfl dX7_takes_35 ?_
        refine g_iconst C 0 (by decide) dX7_takes_38 ?_
        refine g_iald C 1 (by omega) q1 (vp_in_iff.mpr (by omega)) dX7_takes_39 ?_
        refine g_eqst (st1 := ([.int (Sl 0), .int (nI p)] : List Value)) rfl ?_
        refine g_eqst (show ([.int (Sl 0), .int (nI p)] : List Value) = ([.int (nI (σ.1 - 1)), .int (nI p)] : List Value) from by rw [hsl, if_neg (by omega), if_pos rfl]) ?_
        refine g_icmp_ge C 69 (by decide) dX7_takes_40 (fun c40 => ?_) (fun c40 => ?_)
        · -- taken at 40
          have c40' := i_le c40
          have hie : p = σ.1 - 1 := by omega
          refine g_aload_n C 0 rfl dX7_takes_69 ?_
          refine g_get C 0 7 0 (by omega) q0 rfl in7 (by decide) f7 (fun _ h9 => h9) rfl dX7_takes_70 ?_
          refine g_iconst C 2 (by decide) dX7_takes_73 ?_
          refine g_dup2 C rfl rfl dX7_takes_74 ?_
          refine g_iald C 1 (by omega) q1 (vp_in_iff.mpr (by omega)) dX7_takes_75 ?_
          refine g_eqst (st1 := ([.int (Sl 2), .int 2, .ref (adr 1)] : List Value)) rfl ?_
          refine g_eqst (show ([.int (Sl 2), .int 2, .ref (adr 1)] : List Value) = ([.int (S 2), .int 2, .ref (adr 1)] : List Value) from by rw [hsl, if_neg (by omega), if_neg (by omega)]) ?_
          refine g_iconst C 1 (by decide) dX7_takes_76 ?_
          refine g_iadd C dX7_takes_77 ?_
          refine g_iast C 1 (by omega) q1 (vp_in_iff.mpr (by omega)) dX7_takes_78 ?_
          refine g_cell (fun cell19 ec19 => ?_)
          have h_20 : cell19 0 = .inr (7, [.ref (adr 1), .ref (adr 2), .ref (adr 3), .ref (adr 4), .int st, .ref (adr 5), .int ty, .int at', .int re, .ref (adr 6), .ref (adr 7), .ref (adr 8)]) := by rw [ec19, va_up_ne _ _ (by omega)]; exact q0
          have h_21 : cell19 1 = .inl (kc 0, 90, .inl (upd Sl (2 : Int32).toNatClampNeg ((S 2) + 1))) := by rw [ec19]; exact va_up_self _ _ _
          have h_22 : cell19 2 = .inl (kc 0, 360, .inl Wa) := by rw [ec19, va_up_ne _ _ (by omega)]; exact q2
          have h_23 : cell19 3 = .inl (kc 0, 90, .inl Bg) := by rw [ec19, va_up_ne _ _ (by omega)]; exact q3
          have h_24 : cell19 4 = .inl (kc 0, 90, .inl As) := by rw [ec19, va_up_ne _ _ (by omega)]; exact q4
          have h_25 : cell19 5 = .inl (kc 1, 60, .inl tx) := by rw [ec19, va_up_ne _ _ (by omega)]; exact q5
          have h_26 : cell19 6 = .inl (kc 0, 3, .inl nu) := by rw [ec19, va_up_ne _ _ (by omega)]; exact q6
          have h_27 : cell19 7 = .inl (kc 0, 40, .inl mo) := by rw [ec19, va_up_ne _ _ (by omega)]; exact q7
          have h_28 : cell19 8 = .inl (kc 0, 6, .inl sh) := by rw [ec19, va_up_ne _ _ (by omega)]; exact q8
          have h_30 : cell19 1 = .inl (kc 0, 90, .inl (upd Sl 2 ((S 2) + 1))) := h_21.trans (congrArg (fun z0 : Nat => (.inl (kc 0, 90, .inl (upd Sl z0 ((S 2) + 1))) : va_E)) (show (2 : Int32).toNatClampNeg = 2 by decide))
          have hm1 : (upd Sl 2 ((S 2) + 1)) 1 = nI σ.2.1 := by rw [upd_n (by omega), hsl, if_neg (by omega), if_neg (by omega), e1]
          refine g_aload_n C 0 rfl dX7_takes_79 ?_
          refine g_iload_n C 1 rfl dX7_takes_80 ?_
          refine g_iconst C (-1) (by decide) dX7_takes_81 ?_
          refine g_iconst C 1 (by decide) dX7_takes_82 ?_
          refine g_Vv C [.int (nI z), .int (-1), .int 1] 0 7 (by omega) h_20 rfl (c_X7_follows l D kc N adr cell19 (upd Sl 2 ((S 2) + 1)) Wa Bg As tx st ty at' re nu mo sh σ.2.1 z (-1) 1 ⟨h_20, h_30, h_22, h_23, h_24, h_25, h_26, h_27, h_28⟩ (by omega) hm1 hg2 (by omega)) (cwV 3 C.2.2.2.2.1 gX7_takes_X7_follows rfl rfl rfl (by decide +kernel) ⟨Nat.le_of_ble_eq_true rfl, Nat.le_of_ble_eq_true rfl⟩) rfl rfl (Nat.le_of_ble_eq_true rfl) (Nat.zero_le _) (Nat.zero_le _) dX7_takes_83 (fun cell31 q31 => ?_)
          obtain ⟨S1, ⟨h_32, h_33, h_34, h_35, h_36, h_37, h_38, h_39, h_40⟩, hf1, hf2⟩ := q31
          have hb0 : (upd Sl 2 ((S 2) + 1)) 0 = nI (σ.1 - 1) := by rw [upd_n (by omega), hsl, if_neg (by omega), if_pos rfl]
          have hb2 : (upd Sl 2 ((S 2) + 1)) 2 = S 2 + 1 := upd_s
          have hbW : ∀ q : Nat, q < σ.1 - 1 → (upd Sl 2 ((S 2) + 1)) (8 + q) = remW z σ.2.2.2.1 q := fun q hq => by
            rw [upd_n (by omega), hsl]
            unfold remW
            by_cases c2 : q < z
            · rw [if_neg (by omega), if_neg (by omega), if_pos c2]; exact hS.2.2.2.2.1 q (by omega)
            · rw [if_pos (by omega), if_neg c2]; exact hS.2.2.2.2.1 (q + 1) (by omega)
          have hbo : ∀ j : Nat, j ≠ 0 → j ≠ 2 → (j < 8 ∨ 48 ≤ j) → (upd Sl 2 ((S 2) + 1)) j = S j := fun j h0 h2 hj => by rw [upd_n h2, hsl, if_neg (by omega), if_neg h0]
          have hms : MS S1 (remD z σ) := ms_fol hS (by omega) hb0 hb2 hbW hbo hf1 hf2 (fun k hk => flw_rem (vt_lt hG hk) (by omega))
          refine g_iload_n C 2 rfl dX7_takes_86 ?_
          refine g_iret C hr rfl hlk dX7_takes_87 ?_
          exact ⟨by unfold takeR; rw [if_neg (by omega), hzz], _, ⟨h_32, h_33, h_34, h_35, h_36, h_37, h_38, h_39, h_40⟩, ms_yes (by unfold takeO; rw [hzz]; exact if_pos (by omega)) hms⟩
        · -- not taken at 40
          have c40' := i_nle c40
          refine g_aload_n C 0 rfl dX7_takes_43 ?_
          refine g_get C 0 7 0 (by omega) q0 rfl in7 (by decide) f7 (fun _ h9 => h9) rfl dX7_takes_44 ?_
          refine g_bipush C 8 (by decide) dX7_takes_47 ?_
          refine g_iload_n C 3 rfl dX7_takes_49 ?_
          refine g_iadd C dX7_takes_50 ?_
          refine g_eqst (st1 := ([.int (nI (8 + p)), .ref (adr 1)] : List Value)) (congrArg (fun z0 : Int32 => (([.int z0, .ref (adr 1)] : List Value))) (mI_add 8 p)) ?_
          refine g_aload_n C 0 rfl dX7_takes_51 ?_
          refine g_get C 0 7 0 (by omega) q0 rfl in7 (by decide) f7 (fun _ h9 => h9) rfl dX7_takes_52 ?_
          refine g_bipush C 8 (by decide) dX7_takes_55 ?_
          refine g_iload_n C 3 rfl dX7_takes_57 ?_
          refine g_iadd C dX7_takes_58 ?_
          refine g_eqst (st1 := ([.int (nI (8 + p)), .ref (adr 1), .int (nI (8 + p)), .ref (adr 1)] : List Value)) (congrArg (fun z0 : Int32 => (([.int z0, .ref (adr 1), .int (nI (8 + p)), .ref (adr 1)] : List Value))) (mI_add 8 p)) ?_
          refine g_iconst C 1 (by decide) dX7_takes_59 ?_
          refine g_iadd C dX7_takes_60 ?_
          refine g_eqst (st1 := ([.int (nI (8 + p + 1)), .ref (adr 1), .int (nI (8 + p)), .ref (adr 1)] : List Value)) (congrArg (fun z0 : Int32 => (([.int z0, .ref (adr 1), .int (nI (8 + p)), .ref (adr 1)] : List Value))) (mI_add (8 + p) 1)) ?_
          refine g_iald C 1 (by omega) q1 (vp_in_nI (by omega) (by omega)) dX7_takes_61 ?_
          refine g_eqst (show ([.int (Sl (nI (8 + p + 1)).toNatClampNeg), .int (nI (8 + p)), .ref (adr 1)] : List Value) = ([.int (Sl (8 + p + 1)), .int (nI (8 + p)), .ref (adr 1)] : List Value) from by rw [nI_clamp (by omega)]) ?_
          refine g_iast C 1 (by omega) q1 (vp_in_nI (by omega) (by omega)) dX7_takes_62 ?_
          refine g_cell (fun cell41 ec41 => ?_)
          have h_42 : cell41 0 = .inr (7, [.ref (adr 1), .ref (adr 2), .ref (adr 3), .ref (adr 4), .int st, .ref (adr 5), .int ty, .int at', .int re, .ref (adr 6), .ref (adr 7), .ref (adr 8)]) := by rw [ec41, va_up_ne _ _ (by omega)]; exact q0
          have h_43 : cell41 1 = .inl (kc 0, 90, .inl (upd Sl (nI (8 + p)).toNatClampNeg (Sl (8 + p + 1)))) := by rw [ec41]; exact va_up_self _ _ _
          have h_44 : cell41 2 = .inl (kc 0, 360, .inl Wa) := by rw [ec41, va_up_ne _ _ (by omega)]; exact q2
          have h_45 : cell41 3 = .inl (kc 0, 90, .inl Bg) := by rw [ec41, va_up_ne _ _ (by omega)]; exact q3
          have h_46 : cell41 4 = .inl (kc 0, 90, .inl As) := by rw [ec41, va_up_ne _ _ (by omega)]; exact q4
          have h_47 : cell41 5 = .inl (kc 1, 60, .inl tx) := by rw [ec41, va_up_ne _ _ (by omega)]; exact q5
          have h_48 : cell41 6 = .inl (kc 0, 3, .inl nu) := by rw [ec41, va_up_ne _ _ (by omega)]; exact q6
          have h_49 : cell41 7 = .inl (kc 0, 40, .inl mo) := by rw [ec41, va_up_ne _ _ (by omega)]; exact q7
          have h_50 : cell41 8 = .inl (kc 0, 6, .inl sh) := by rw [ec41, va_up_ne _ _ (by omega)]; exact q8
          have h_52 : cell41 1 = .inl (kc 0, 90, .inl (upd Sl (8 + p) (Sl (8 + p + 1)))) := by rw [h_43, nI_clamp (by omega)]
          refine g_iinc C 3 [(3, .int (nI (p + 1))), (0, .ref (adr 0)), (1, .int (nI z)), (2, .int (σ.2.2.2.1 z))] rfl (iinc_nI p) (by decide) rfl dX7_takes_63 ?_
          refine g_goto C 33 (by decide) dX7_takes_66 ?_
          have hb : ∀ j : Nat, (upd Sl (8 + p) (Sl (8 + p + 1))) j = if 8 + z ≤ j ∧ j < 8 + (p + 1) then S (j + 1) else if j = 0 then nI (σ.1 - 1) else S j := fun j => by
            by_cases e : j = 8 + p
            · rw [e, upd_s, hsl, if_neg (by omega), if_neg (by omega), if_pos (by omega)]
            · rw [upd_n e, hsl]
              by_cases c : 8 + z ≤ j ∧ j < 8 + p
              · rw [if_pos c, if_pos (by omega)]
              · rw [if_neg c, if_neg (by omega : ¬ (8 + z ≤ j ∧ j < 8 + (p + 1)))]
          refine g_sub [1, 2, 3, 0] rfl ?_
          exact ih (p + 1) _ _ (by omega) (by omega) h_42 h_52 h_44 h_45 h_46 h_47 h_48 h_49 h_50 hb (by omega)
    refine g_sub [2, 3, 1, 0] rfl ?_
    exact L33 ((σ.1 - 1) + 1) z _ _ (by omega) (by omega) h_6 h_16 h_8 h_9 h_10 h_11 h_12 h_13 h_14 (fun j => by rw [if_neg (by omega : ¬ (8 + z ≤ j ∧ j < 8 + z))]; rfl) (Nat.le_refl z)
  · -- not taken at 5
    have c5' := bI_f c5
    refine g_ldc C (-1000001) k43 dX7_takes_8 ?_
    refine g_iret C hr rfl hlk dX7_takes_10 ?_
    exact ⟨by unfold takeR; exact if_pos (by omega), _, ⟨m0, m1, m2, m3, m4, m5, m6, m7, m8⟩, ms_no (by unfold takeO; exact if_neg (by omega)) hS⟩
set_option maxRecDepth 100000 in
set_option maxHeartbeats 4000000 in
theorem c_X7_changes (l : Launch) (D : va_G) (kc : Nat → ClassId) (N : Nat) (adr : Nat → Nat) (cell : Nat → va_E) (S Wa Bg As tx : Nat → Int32) (st ty at' re : Int32) (nu mo sh : Nat → Int32) (σ : SD) (x w : Int32) (hB : MB cell adr kc S Wa Bg As st tx ty at' re nu mo sh) (hN : 9 ≤ N) (hS : MS S σ) (hG : Good σ) : MI l yX7_changes wsX7_changes ({ frames := 2, cells := 0, slots := 0, locals := 48 }) D kc N adr cell [.ref (adr 0), .int x, .int w] (fun (v : Int32) (cell1 : Nat → va_E) => changeR σ x w = v ∧ ∃ S1 : Nat → Int32, MB cell1 adr kc S1 Wa Bg As st tx ty at' re nu mo sh ∧ MS S1 (nxS σ (changeO σ x w))) := by
  refine met_i (cc := cX7_changes) (maxL := 4) (ret := (some .int)) (by decide) rfl (Nat.le_of_ble_eq_true rfl) (lv := [(0, .ref (adr 0)), (1, .int x), (2, .int w)]) rfl ?_
  intro Pg Ev Sv Mi args below Me Cd Ar C hr hlk hnm
  have in7 : ∀ w ∈ u_ws RX7 TX7 12, w ∈ wsX7_changes := by decide +kernel
  have k43 := C.2.2.2.2.1 (.constant RX7 43 (-1000001)) (by decide +kernel)
  have f7 := C.2.2.2.2.1 (.fieldLink RX7 7 "WordAnchorsModel" "s" "[I") (by decide +kernel)
  have hB0 := hB
  obtain ⟨m0, m1, m2, m3, m4, m5, m6, m7, m8⟩ := hB
  have hg1 := hG.1
  have hg2 := hG.2.1
  have e0 := hS.1
  have e1 := hS.2.1
  have litm1000001 : ((-1000001) : Int32).toInt = -1000001 := rfl
  have litm1 : ((-1) : Int32).toInt = -1 := rfl
  have lit0 : (0 : Int32).toInt = 0 := rfl
  have lit1 : (1 : Int32).toInt = 1 := rfl
  have lit2 : (2 : Int32).toInt = 2 := rfl
  have lit8 : (8 : Int32).toInt = 8 := rfl
  have lit99 : (99 : Int32).toInt = 99 := rfl
  have tn___1 : (nI σ.1).toInt = ((σ.1 : Nat) : Int) := nI_toInt (by omega)
  have tn___2_1 : (nI σ.2.1).toInt = ((σ.2.1 : Nat) : Int) := nI_toInt (by omega)
  refine g_aload_n C 0 rfl dX7_changes_0 ?_
  refine g_iload_n C 1 rfl dX7_changes_1 ?_
  refine g_Vi C [.int x] 0 7 (by omega) m0 rfl (c_X7_isPlace l D kc N adr cell S Wa Bg As tx st ty at' re nu mo sh σ x ⟨m0, m1, m2, m3, m4, m5, m6, m7, m8⟩ (by omega) hS hG.1 hG.2.1) (cwV 1 C.2.2.2.2.1 gX7_changes_X7_isPlace rfl rfl rfl (by decide +kernel) ⟨Nat.le_of_ble_eq_true rfl, Nat.le_of_ble_eq_true rfl⟩) rfl rfl (Nat.le_of_ble_eq_true rfl) (Nat.zero_le _) (Nat.zero_le _) dX7_changes_2 (fun v1 cell1 q1 => ?_)
  obtain ⟨rfl, rfl⟩ := q1
  refine g_if_eq C 18 (by decide) dX7_changes_5 (fun c5 => ?_) (fun c5 => ?_)
  · -- taken at 5
    have c5' := bI_f c5
    refine g_ldc C (-1000001) k43 dX7_changes_18 ?_
    refine g_iret C hr rfl hlk dX7_changes_20 ?_
    exact ⟨by unfold changeR; exact if_pos (by omega), _, ⟨m0, m1, m2, m3, m4, m5, m6, m7, m8⟩, ms_no (by unfold changeO; exact if_neg (by omega)) hS⟩
  · -- not taken at 5
    have c5' := bI_t c5
    refine g_iload_n C 2 rfl dX7_changes_8 ?_
    refine g_iconst C 0 (by decide) dX7_changes_9 ?_
    refine g_bipush C 99 (by decide) dX7_changes_10 ?_
    refine g_Si C [.int w, .int 0, .int 99] (c_X7_in l D kc N adr cell w 0 99) (va_cwS 3 C.2.2.2.2.1 gX7_changes_X7_in rfl rfl rfl (by decide +kernel) ⟨Nat.le_of_ble_eq_true rfl, Nat.le_of_ble_eq_true rfl⟩) rfl rfl (Nat.le_of_ble_eq_true rfl) (Nat.zero_le _) (Nat.zero_le _) dX7_changes_12 (fun v2 cell2 q2 => ?_)
    obtain ⟨rfl, rfl⟩ := q2
    refine g_if_ne C 21 (by decide) dX7_changes_15 (fun c15 => ?_) (fun c15 => ?_)
    · -- taken at 15
      have c15' := bI_t c15
      have ez : x = nI x.toNatClampNeg := nI_cl (by omega)
      have kz := cl_toInt (x := x) (by omega)
      generalize hzz : x.toNatClampNeg = z at ez kz
      refine g_eqlv (lv1 := [(0, .ref (adr 0)), (1, .int (nI z)), (2, .int w)]) (congrArg (fun z0 : Int32 => ([(0, .ref (adr 0)), (1, .int z0), (2, .int w)] : List (Nat × Value))) ez) ?_
      refine g_aload_n C 0 rfl dX7_changes_21 ?_
      refine g_get C 0 7 0 (by omega) m0 rfl in7 (by decide) f7 (fun _ h9 => h9) rfl dX7_changes_22 ?_
      refine g_bipush C 8 (by decide) dX7_changes_25 ?_
      refine g_iload_n C 1 rfl dX7_changes_27 ?_
      refine g_iadd C dX7_changes_28 ?_
      refine g_eqst (st1 := ([.int (nI (8 + z)), .ref (adr 1)] : List Value)) (congrArg (fun z0 : Int32 => (([.int z0, .ref (adr 1)] : List Value))) (mI_add 8 z)) ?_
      refine g_iald C 1 (by omega) m1 (vp_in_nI (by omega) (by omega)) dX7_changes_29 ?_
      refine g_eqst (show ([.int (S (nI (8 + z)).toNatClampNeg)] : List Value) = ([.int (S (8 + z))] : List Value) from by rw [nI_clamp (by omega)]) ?_
      refine g_eqst (show ([.int (S (8 + z))] : List Value) = ([.int (σ.2.2.2.1 z)] : List Value) from by rw [hS.2.2.2.2.1 z (by omega)]) ?_
      refine g_istore_n C [(3, .int (σ.2.2.2.1 z)), (0, .ref (adr 0)), (1, .int (nI z)), (2, .int w)] (by decide) rfl dX7_changes_30 ?_
      refine g_aload_n C 1 rfl dX7_changes_31 ?_
      refine g_get C 0 7 0 (by omega) m0 rfl in7 (by decide) f7 (fun _ h9 => h9) rfl dX7_changes_32 ?_
      refine g_bipush C 8 (by decide) dX7_changes_35 ?_
      refine g_iload_n C 2 rfl dX7_changes_37 ?_
      refine g_iadd C dX7_changes_38 ?_
      refine g_eqst (st1 := ([.int (nI (8 + z)), .ref (adr 1)] : List Value)) (congrArg (fun z0 : Int32 => (([.int z0, .ref (adr 1)] : List Value))) (mI_add 8 z)) ?_
      refine g_iload_n C 3 rfl dX7_changes_39 ?_
      refine g_iast C 1 (by omega) m1 (vp_in_nI (by omega) (by omega)) dX7_changes_40 ?_
      refine g_cell (fun cell4 ec4 => ?_)
      have h_5 : cell4 0 = .inr (7, [.ref (adr 1), .ref (adr 2), .ref (adr 3), .ref (adr 4), .int st, .ref (adr 5), .int ty, .int at', .int re, .ref (adr 6), .ref (adr 7), .ref (adr 8)]) := by rw [ec4, va_up_ne _ _ (by omega)]; exact m0
      have h_6 : cell4 1 = .inl (kc 0, 90, .inl (upd S (nI (8 + z)).toNatClampNeg w)) := by rw [ec4]; exact va_up_self _ _ _
      have h_7 : cell4 2 = .inl (kc 0, 360, .inl Wa) := by rw [ec4, va_up_ne _ _ (by omega)]; exact m2
      have h_8 : cell4 3 = .inl (kc 0, 90, .inl Bg) := by rw [ec4, va_up_ne _ _ (by omega)]; exact m3
      have h_9 : cell4 4 = .inl (kc 0, 90, .inl As) := by rw [ec4, va_up_ne _ _ (by omega)]; exact m4
      have h_10 : cell4 5 = .inl (kc 1, 60, .inl tx) := by rw [ec4, va_up_ne _ _ (by omega)]; exact m5
      have h_11 : cell4 6 = .inl (kc 0, 3, .inl nu) := by rw [ec4, va_up_ne _ _ (by omega)]; exact m6
      have h_12 : cell4 7 = .inl (kc 0, 40, .inl mo) := by rw [ec4, va_up_ne _ _ (by omega)]; exact m7
      have h_13 : cell4 8 = .inl (kc 0, 6, .inl sh) := by rw [ec4, va_up_ne _ _ (by omega)]; exact m8
      have h_15 : cell4 1 = .inl (kc 0, 90, .inl (upd S (8 + z) w)) := by rw [h_6, nI_clamp (by omega)]
      refine g_aload_n C 1 rfl dX7_changes_41 ?_
      refine g_get C 0 7 0 (by omega) h_5 rfl in7 (by decide) f7 (fun _ h9 => h9) rfl dX7_changes_42 ?_
      refine g_iconst C 2 (by decide) dX7_changes_45 ?_
      refine g_dup2 C rfl rfl dX7_changes_46 ?_
      refine g_iald C 1 (by omega) h_15 (vp_in_iff.mpr (by omega)) dX7_changes_47 ?_
      refine g_eqst (st1 := ([.int ((upd S (8 + z) w) 2), .int 2, .ref (adr 1)] : List Value)) rfl ?_
      refine g_eqst (show ([.int ((upd S (8 + z) w) 2), .int 2, .ref (adr 1)] : List Value) = ([.int (S 2), .int 2, .ref (adr 1)] : List Value) from by rw [upd_n (by omega)]) ?_
      refine g_iconst C 1 (by decide) dX7_changes_48 ?_
      refine g_iadd C dX7_changes_49 ?_
      refine g_iast C 1 (by omega) h_15 (vp_in_iff.mpr (by omega)) dX7_changes_50 ?_
      refine g_cell (fun cell17 ec17 => ?_)
      have h_18 : cell17 0 = .inr (7, [.ref (adr 1), .ref (adr 2), .ref (adr 3), .ref (adr 4), .int st, .ref (adr 5), .int ty, .int at', .int re, .ref (adr 6), .ref (adr 7), .ref (adr 8)]) := by rw [ec17, va_up_ne _ _ (by omega)]; exact h_5
      have h_19 : cell17 1 = .inl (kc 0, 90, .inl (upd (upd S (8 + z) w) (2 : Int32).toNatClampNeg ((S 2) + 1))) := by rw [ec17]; exact va_up_self _ _ _
      have h_20 : cell17 2 = .inl (kc 0, 360, .inl Wa) := by rw [ec17, va_up_ne _ _ (by omega)]; exact h_7
      have h_21 : cell17 3 = .inl (kc 0, 90, .inl Bg) := by rw [ec17, va_up_ne _ _ (by omega)]; exact h_8
      have h_22 : cell17 4 = .inl (kc 0, 90, .inl As) := by rw [ec17, va_up_ne _ _ (by omega)]; exact h_9
      have h_23 : cell17 5 = .inl (kc 1, 60, .inl tx) := by rw [ec17, va_up_ne _ _ (by omega)]; exact h_10
      have h_24 : cell17 6 = .inl (kc 0, 3, .inl nu) := by rw [ec17, va_up_ne _ _ (by omega)]; exact h_11
      have h_25 : cell17 7 = .inl (kc 0, 40, .inl mo) := by rw [ec17, va_up_ne _ _ (by omega)]; exact h_12
      have h_26 : cell17 8 = .inl (kc 0, 6, .inl sh) := by rw [ec17, va_up_ne _ _ (by omega)]; exact h_13
      have h_28 : cell17 1 = .inl (kc 0, 90, .inl (upd (upd S (8 + z) w) 2 ((S 2) + 1))) := h_19.trans (congrArg (fun z0 : Nat => (.inl (kc 0, 90, .inl (upd (upd S (8 + z) w) z0 ((S 2) + 1))) : va_E)) (show (2 : Int32).toNatClampNeg = 2 by decide))
      have hm1 : (upd (upd S (8 + z) w) 2 ((S 2) + 1)) 1 = nI σ.2.1 := by rw [upd_n (by omega), upd_n (by omega), e1]
      refine g_aload_n C 1 rfl dX7_changes_51 ?_
      refine g_iload_n C 2 rfl dX7_changes_52 ?_
      refine g_iconst C 0 (by decide) dX7_changes_53 ?_
      refine g_iconst C 1 (by decide) dX7_changes_54 ?_
      refine g_Vv C [.int (nI z), .int 0, .int 1] 0 7 (by omega) h_18 rfl (c_X7_follows l D kc N adr cell17 (upd (upd S (8 + z) w) 2 ((S 2) + 1)) Wa Bg As tx st ty at' re nu mo sh σ.2.1 z 0 1 ⟨h_18, h_28, h_20, h_21, h_22, h_23, h_24, h_25, h_26⟩ (by omega) hm1 hg2 (by omega)) (cwV 3 C.2.2.2.2.1 gX7_changes_X7_follows rfl rfl rfl (by decide +kernel) ⟨Nat.le_of_ble_eq_true rfl, Nat.le_of_ble_eq_true rfl⟩) rfl rfl (Nat.le_of_ble_eq_true rfl) (Nat.zero_le _) (Nat.zero_le _) dX7_changes_55 (fun cell29 q29 => ?_)
      obtain ⟨S1, ⟨h_30, h_31, h_32, h_33, h_34, h_35, h_36, h_37, h_38⟩, hf1, hf2⟩ := q29
      have hb0 : (upd (upd S (8 + z) w) 2 ((S 2) + 1)) 0 = nI σ.1 := by rw [upd_n (by omega), upd_n (by omega), e0]
      have hb2 : (upd (upd S (8 + z) w) 2 ((S 2) + 1)) 2 = S 2 + 1 := upd_s
      have hbW : ∀ q : Nat, q < σ.1 → (upd (upd S (8 + z) w) 2 ((S 2) + 1)) (8 + q) = upd σ.2.2.2.1 z w q := fun q hq => by
        rw [upd_n (by omega)]
        by_cases c2 : q = z
        · rw [c2, upd_s, upd_s]
        · rw [upd_n (by omega), upd_n c2]; exact hS.2.2.2.2.1 q hq
      have hbo : ∀ j : Nat, j ≠ 0 → j ≠ 2 → (j < 8 ∨ 48 ≤ j) → (upd (upd S (8 + z) w) 2 ((S 2) + 1)) j = S j := fun j h0 h2 hj => by rw [upd_n h2, upd_n (by omega)]
      have hms : MS S1 (chgD z w σ) := ms_fol hS hg1 hb0 hb2 hbW hbo hf1 hf2 (fun k hk => flw_chg (vt_lt hG hk) (by omega))
      refine g_iload_n C 0 rfl dX7_changes_58 ?_
      refine g_iret C hr rfl hlk dX7_changes_59 ?_
      exact ⟨by unfold changeR; rw [if_neg (by omega), hzz], _, ⟨h_30, h_31, h_32, h_33, h_34, h_35, h_36, h_37, h_38⟩, ms_yes (by unfold changeO; rw [hzz]; exact if_pos (by omega)) hms⟩
    · -- not taken at 15
      have c15' := bI_f c15
      refine g_ldc C (-1000001) k43 dX7_changes_18 ?_
      refine g_iret C hr rfl hlk dX7_changes_20 ?_
      exact ⟨by unfold changeR; exact if_pos (by omega), _, ⟨m0, m1, m2, m3, m4, m5, m6, m7, m8⟩, ms_no (by unfold changeO; exact if_neg (by omega)) hS⟩
