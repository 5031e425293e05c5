set_option maxRecDepth 100000 in
set_option maxHeartbeats 4000000 in
theorem c_X7_doesNext (l : Launch) (D : va_G) (kc : Nat → ClassId) (N : Nat) (adr : Nat → Nat) (cell : Nat → va_E) (S Wa Bg As tx : Nat → Int32) (st ty at' re : Int32) (nu mo sh : Nat → Int32) (σ : SD) (L : Nat) (ch : Nat → Int32) (a : Nat)  (hB : MB cell adr kc S Wa Bg As st tx ty at' re nu mo sh) (hN : 9 ≤ N) (hS : MS S σ) (hG : Good σ) (hat : at' = nI a) (hty : ty = nI L) (htx : ∀ j : Nat, j < L → tx j = ch j) (hL60 : L ≤ 60) (ha : a < 1000) (haL : a < L) : MI l yX7_doesNext wsX7_doesNext ({ frames := 3, cells := 0, slots := 0, locals := 72 }) D kc N adr cell [.ref (adr 0)] (fun (v : Int32) (cell1 : Nat → va_E) => ∃ (S1 : Nat → Int32) (at1 : Nat) (nu1 mo1 : Nat → Int32), dneF L ch a σ = v ∧ MB cell1 adr kc S1 Wa Bg As st tx (nI L) (nI at1) re nu1 mo1 sh ∧ MS S1 (dneS L ch a σ) ∧ ∀ e : Nat, edF L ch a = some e → at1 = e) := by
  refine met_i (cc := cX7_doesNext) (maxL := 3) (ret := (some .int)) (by decide) rfl (Nat.le_of_ble_eq_true rfl) (lv := [(0, .ref (adr 0))]) rfl ?_
  intro Pg Ev Sv Mi args below Me Cd Ar C hr hlk hnm
  have in7 : ∀ w ∈ u_ws RX7 TX7 12, w ∈ wsX7_doesNext := by decide +kernel
  have f142 := C.2.2.2.2.1 (.fieldLink RX7 142 "WordAnchorsModel" "at" "I") (by decide +kernel)
  have f26 := C.2.2.2.2.1 (.fieldLink RX7 26 "WordAnchorsModel" "number" "[I") (by decide +kernel)
  have k43 := C.2.2.2.2.1 (.constant RX7 43 (-1000001)) (by decide +kernel)
  have k52 := C.2.2.2.2.1 (.constant RX7 52 (-1000003)) (by decide +kernel)
  subst hat hty
  have hB0 := hB
  obtain ⟨m0, m1, m2, m3, m4, m5, m6, m7, m8⟩ := hB
  have hg1 := hG.1
  have hg2 := hG.2.1
  have e0 := hS.1
  have e1 := hS.2.1
  have litm1000003 : ((-1000003) : Int32).toInt = -1000003 := rfl
  have litm1000001 : ((-1000001) : Int32).toInt = -1000001 := rfl
  have litm1 : ((-1) : Int32).toInt = -1 := rfl
  have lit0 : (0 : Int32).toInt = 0 := rfl
  have lit1 : (1 : Int32).toInt = 1 := rfl
  have lit2 : (2 : Int32).toInt = 2 := rfl
  have lit3 : (3 : Int32).toInt = 3 := rfl
  have lit43 : (43 : Int32).toInt = 43 := rfl
  have lit45 : (45 : Int32).toInt = 45 := rfl
  have lit61 : (61 : Int32).toInt = 61 := rfl
  have lit62 : (62 : Int32).toInt = 62 := rfl
  have tn_a : (nI a).toInt = ((a : Nat) : Int) := nI_toInt (by omega)
  have tn_L : (nI L).toInt = ((L : Nat) : Int) := nI_toInt (by omega)
  have tn___1 : (nI σ.1).toInt = ((σ.1 : Nat) : Int) := nI_toInt (by omega)
  refine g_aload_n C 0 rfl dX7_doesNext_0 ?_
  refine g_Vi C [] 0 7 (by omega) m0 rfl (c_X7_sign l D kc N adr cell S Wa Bg As tx st (nI L) (nI a) re nu mo sh L ch a  ⟨m0, m1, m2, m3, m4, m5, m6, m7, m8⟩ (by omega) rfl rfl htx hL60 (by omega)) (cwV 0 C.2.2.2.2.1 gX7_doesNext_X7_sign rfl rfl rfl (by decide +kernel) ⟨Nat.le_of_ble_eq_true rfl, Nat.le_of_ble_eq_true rfl⟩) rfl rfl (Nat.le_of_ble_eq_true rfl) (Nat.zero_le _) (Nat.zero_le _) dX7_doesNext_1 (fun v1 cell1 q1 => ?_)
  obtain ⟨rfl, rfl⟩ := q1
  refine g_eqst (st1 := ([.int (chF L ch a)] : List Value)) (by rw [sg_in haL]) ?_
  refine g_istore_n C [(1, .int (chF L ch a)), (0, .ref (adr 0))] (by decide) rfl dX7_doesNext_4 ?_
  refine g_aload_n C 1 rfl dX7_doesNext_5 ?_
  refine g_dup C rfl dX7_doesNext_6 ?_
  refine g_get C 0 7 7 (by omega) m0 rfl in7 (by decide) f142 (fun _ h9 => h9) rfl dX7_doesNext_7 ?_
  refine g_iconst C 1 (by decide) dX7_doesNext_10 ?_
  refine g_iadd C dX7_doesNext_11 ?_
  refine g_eqst (st1 := ([.int (nI (a + 1)), .ref (adr 0)] : List Value)) (congrArg (fun z0 : Int32 => (([.int z0, .ref (adr 0)] : List Value))) (mI_add a 1)) ?_
  refine g_put C 0 7 7 (by omega) m0 rfl in7 tyX7 tyX7_ok nmX7 (by decide) f142 (fun _ h9 => h9) rfl (ty := .int) (by decide +kernel) rfl rfl (Nat.le_of_ble_eq_true rfl) dX7_doesNext_12 ?_
  refine g_cell (fun cell3 ec3 => ?_)
  have h_4 : cell3 0 = .inr (7, [.ref (adr 1), .ref (adr 2), .ref (adr 3), .ref (adr 4), .int st, .ref (adr 5), .int (nI L), .int (nI (a + 1)), .int re, .ref (adr 6), .ref (adr 7), .ref (adr 8)]) := by rw [ec3]; exact va_up_self _ _ _
  have h_5 : cell3 1 = .inl (kc 0, 90, .inl S) := by rw [ec3, va_up_ne _ _ (by omega)]; exact m1
  have h_6 : cell3 2 = .inl (kc 0, 360, .inl Wa) := by rw [ec3, va_up_ne _ _ (by omega)]; exact m2
  have h_7 : cell3 3 = .inl (kc 0, 90, .inl Bg) := by rw [ec3, va_up_ne _ _ (by omega)]; exact m3
  have h_8 : cell3 4 = .inl (kc 0, 90, .inl As) := by rw [ec3, va_up_ne _ _ (by omega)]; exact m4
  have h_9 : cell3 5 = .inl (kc 1, 60, .inl tx) := by rw [ec3, va_up_ne _ _ (by omega)]; exact m5
  have h_10 : cell3 6 = .inl (kc 0, 3, .inl nu) := by rw [ec3, va_up_ne _ _ (by omega)]; exact m6
  have h_11 : cell3 7 = .inl (kc 0, 40, .inl mo) := by rw [ec3, va_up_ne _ _ (by omega)]; exact m7
  have h_12 : cell3 8 = .inl (kc 0, 6, .inl sh) := by rw [ec3, va_up_ne _ _ (by omega)]; exact m8
  refine g_aload_n C 1 rfl dX7_doesNext_15 ?_
  refine g_iload_n C 0 rfl dX7_doesNext_16 ?_
  refine g_bipush C 45 (by decide) dX7_doesNext_17 ?_
  refine g_icmp_ne C 26 (by decide) dX7_doesNext_19 (fun c19 => ?_) (fun c19 => ?_)
  · -- taken at 19
    have c19' := i_ne c19
    refine g_iload_n C 0 rfl dX7_doesNext_26 ?_
    refine g_bipush C 43 (by decide) dX7_doesNext_27 ?_
    refine g_icmp_eq C 38 (by decide) dX7_doesNext_29 (fun c29 => ?_) (fun c29 => ?_)
    · -- taken at 29
      have c29' := i_eq c29
      refine g_iconst C 2 (by decide) dX7_doesNext_38 ?_
      refine g_goto C 53 (by decide) dX7_doesNext_39 ?_
      refine g_eqst (st1 := ([.int (nI 2), .ref (adr 0)] : List Value)) rfl ?_
      have hdu : dueN (chF L ch a) = 2 := if_pos c29
      refine g_Vi C [.int (nI 2)] 0 7 (by omega) h_4 rfl (c_X7_reads l D kc N adr cell3 S Wa Bg As tx st (nI L) (nI (a + 1)) re nu mo sh L ch (a + 1) 2 ⟨h_4, h_5, h_6, h_7, h_8, h_9, h_10, h_11, h_12⟩ (by omega) rfl rfl htx hL60 (by omega) (by omega) (by omega)) (cwV 1 C.2.2.2.2.1 gX7_doesNext_X7_reads rfl rfl rfl (by decide +kernel) ⟨Nat.le_of_ble_eq_true rfl, Nat.le_of_ble_eq_true rfl⟩) rfl rfl (Nat.le_of_ble_eq_true rfl) (Nat.zero_le _) (Nat.zero_le _) dX7_doesNext_53 (fun v14 cell14 q14 => ?_)
      obtain ⟨at1, nu1, rfl, ⟨h_15, h_16, h_17, h_18, h_19, h_20, h_21, h_22, h_23⟩, hed⟩ := q14
      refine g_if_ne C 61 (by decide) dX7_doesNext_56 (fun c56 => ?_) (fun c56 => ?_)
      · -- taken at 56
        have c56' := bI_bt c56
        obtain ⟨e, he⟩ := Option.isSome_iff_exists.mp c56'
        obtain ⟨rfl, hnu⟩ := hed e he
        have hed2 : edF L ch a = some e := by rw [rd_ed, hdu]; exact he
        have hn0 : nvF L ch (a + 1) 0 = nu1 0 := (hnu 0 (by omega)).symm
        have hw0 := nv_rng L ch (a + 1) 0
        rw [hn0] at hw0
        have hn1 : nvF L ch (a + 1) 1 = nu1 1 := (hnu 1 (by omega)).symm
        have hw1 := nv_rng L ch (a + 1) 1
        rw [hn1] at hw1
        refine g_iconst C 0 (by decide) dX7_doesNext_61 ?_
        refine g_istore_n C [(2, .int 0), (1, .int (chF L ch a)), (0, .ref (adr 0))] (by decide) rfl dX7_doesNext_62 ?_
        refine g_iload_n C 1 rfl dX7_doesNext_63 ?_
        by_cases c64_43 : (chF L ch a) = 43
        · have c64' := i_eq c64_43
          refine g_lookup C 100 (by decide) (by rw [c64_43] <;> rfl) (by decide) dX7_doesNext_64 ?_
          refine g_aload_n C 2 rfl dX7_doesNext_100 ?_
          refine g_aload_n C 2 rfl dX7_doesNext_101 ?_
          refine g_get C 0 7 9 (by omega) h_15 rfl in7 (by decide) f26 (fun _ h9 => h9) rfl dX7_doesNext_102 ?_
          refine g_iconst C 0 (by decide) dX7_doesNext_105 ?_
          refine g_iald C 6 (by omega) h_21 (vp_in_iff.mpr (by omega)) dX7_doesNext_106 ?_
          refine g_eqst (st1 := ([.int (nu1 0), .ref (adr 0)] : List Value)) rfl ?_
          refine g_aload_n C 2 rfl dX7_doesNext_107 ?_
          refine g_get C 0 7 9 (by omega) h_15 rfl in7 (by decide) f26 (fun _ h9 => h9) rfl dX7_doesNext_108 ?_
          refine g_iconst C 1 (by decide) dX7_doesNext_111 ?_
          refine g_iald C 6 (by omega) h_21 (vp_in_iff.mpr (by omega)) dX7_doesNext_112 ?_
          refine g_eqst (st1 := ([.int (nu1 1), .int (nu1 0), .ref (adr 0)] : List Value)) rfl ?_
          refine g_Vi C [.int (nu1 0), .int (nu1 1)] 0 7 (by omega) h_15 rfl (c_X7_puts l D kc N adr cell14 S Wa Bg As tx st (nI L) (nI e) re nu1 mo sh σ (nu1 0) (nu1 1) ⟨h_15, h_16, h_17, h_18, h_19, h_20, h_21, h_22, h_23⟩ (by omega) hS hG) (cwV 2 C.2.2.2.2.1 gX7_doesNext_X7_puts rfl rfl rfl (by decide +kernel) ⟨Nat.le_of_ble_eq_true rfl, Nat.le_of_ble_eq_true rfl⟩) rfl rfl (Nat.le_of_ble_eq_true rfl) (Nat.zero_le _) (Nat.zero_le _) dX7_doesNext_113 (fun v24 cell24 q24 => ?_)
          obtain ⟨rfl, S1, ⟨h_25, h_26, h_27, h_28, h_29, h_30, h_31, h_32, h_33⟩, hS1⟩ := q24
          refine g_istore_n C [(2, .int (putR σ (nu1 0) (nu1 1))), (1, .int (chF L ch a)), (0, .ref (adr 0))] (by decide) rfl dX7_doesNext_116 ?_
          refine g_goto C 177 (by decide) dX7_doesNext_117 ?_
          refine g_iload_n C 0 rfl dX7_doesNext_177 ?_
          refine g_ldc C (-1000001) k43 dX7_doesNext_178 ?_
          refine g_icmp_ne C 187 (by decide) dX7_doesNext_180 (fun c180 => ?_) (fun c180 => ?_)
          · -- taken at 180
            have c180' := i_ne c180
            refine g_iload_n C 0 rfl dX7_doesNext_187 ?_
            refine g_ldc C (-1000003) k52 dX7_doesNext_188 ?_
            refine g_icmp_ne C 197 (by decide) dX7_doesNext_190 (fun c190 => ?_) (fun c190 => ?_)
            · -- taken at 190
              have c190' := i_ne c190
              refine g_iconst C 0 (by decide) dX7_doesNext_197 ?_
              refine g_iret C hr rfl hlk dX7_doesNext_198 ?_
              have hpl := pl_put (p := nu1 0) hG c29 hw1 (t := nvF L ch (a + 1) 2)
              obtain ⟨hd1, hd2⟩ := dne_ok hed2 (by unfold flE apE; rw [hn0, hn1]; exact hpl) hS1
              exact ⟨_, _, _, _, hd1.trans (rcd_n c180 c190), ⟨h_25, h_26, h_27, h_28, h_29, h_30, h_31, h_32, h_33⟩, hd2, fun e1 h => by rw [hed2] at h; cases h; rfl⟩
            · -- not taken at 190
              have c190' := i_eq c190
              refine g_iconst C 3 (by decide) dX7_doesNext_193 ?_
              refine g_goto C 198 (by decide) dX7_doesNext_194 ?_
              refine g_iret C hr rfl hlk dX7_doesNext_198 ?_
              have hpl := pl_put (p := nu1 0) hG c29 hw1 (t := nvF L ch (a + 1) 2)
              obtain ⟨hd1, hd2⟩ := dne_ok hed2 (by unfold flE apE; rw [hn0, hn1]; exact hpl) hS1
              exact ⟨_, _, _, _, hd1.trans (rcd_3 c180 c190), ⟨h_25, h_26, h_27, h_28, h_29, h_30, h_31, h_32, h_33⟩, hd2, fun e1 h => by rw [hed2] at h; cases h; rfl⟩
          · -- not taken at 180
            have c180' := i_eq c180
            refine g_iconst C 2 (by decide) dX7_doesNext_183 ?_
            refine g_goto C 198 (by decide) dX7_doesNext_184 ?_
            refine g_iret C hr rfl hlk dX7_doesNext_198 ?_
            have hpl := pl_put (p := nu1 0) hG c29 hw1 (t := nvF L ch (a + 1) 2)
            obtain ⟨hd1, hd2⟩ := dne_ok hed2 (by unfold flE apE; rw [hn0, hn1]; exact hpl) hS1
            exact ⟨_, _, _, _, hd1.trans (rcd_2 c180), ⟨h_25, h_26, h_27, h_28, h_29, h_30, h_31, h_32, h_33⟩, hd2, fun e1 h => by rw [hed2] at h; cases h; rfl⟩
        have c64n43 := i_ne c64_43
        by_cases c64_45 : (chF L ch a) = 45
        · have c64' := i_eq c64_45
          refine g_lookup C 120 (by decide) (by rw [c64_45] <;> rfl) (by decide) dX7_doesNext_64 ?_
          exact absurd (c64_45.symm.trans c29) (by decide)
        have c64n45 := i_ne c64_45
        by_cases c64_61 : (chF L ch a) = 61
        · have c64' := i_eq c64_61
          refine g_lookup C 134 (by decide) (by rw [c64_61] <;> rfl) (by decide) dX7_doesNext_64 ?_
          exact absurd (c64_61.symm.trans c29) (by decide)
        have c64n61 := i_ne c64_61
        refine g_lookup C 154 (by decide) (by show Op.lookupswitch.offset [(43, 36), (45, 56), (61, 70)] 90 _ = 90; rw [lv_osw c64_43 (by decide)]; rw [lv_osw c64_45 (by decide)]; rw [lv_osw c64_61 (by decide)]; rfl) (by decide) dX7_doesNext_64 ?_
        exact absurd c29 c64_43
      · -- not taken at 56
        have c56' := bI_bf c56
        refine g_iconst C 1 (by decide) dX7_doesNext_59 ?_
        refine g_iret C hr rfl hlk dX7_doesNext_60 ?_
        have hed2 : edF L ch a = none := by rw [rd_ed, hdu]; exact Option.not_isSome_iff_eq_none.mp (by rw [c56']; decide)
        obtain ⟨hd1, hd2⟩ := dne_none hed2 hS
        exact ⟨_, _, _, _, hd1, ⟨h_15, h_16, h_17, h_18, h_19, h_20, h_21, h_22, h_23⟩, hd2, fun e h => by rw [hed2] at h; cases h⟩
    · -- not taken at 29
      have c29' := i_ne c29
      refine g_iload_n C 0 rfl dX7_doesNext_32 ?_
      refine g_bipush C 61 (by decide) dX7_doesNext_33 ?_
      refine g_icmp_ne C 42 (by decide) dX7_doesNext_35 (fun c35 => ?_) (fun c35 => ?_)
      · -- taken at 35
        have c35' := i_ne c35
        refine g_iload_n C 0 rfl dX7_doesNext_42 ?_
        refine g_bipush C 62 (by decide) dX7_doesNext_43 ?_
        refine g_icmp_ne C 52 (by decide) dX7_doesNext_45 (fun c45 => ?_) (fun c45 => ?_)
        · -- taken at 45
          have c45' := i_ne c45
          refine g_iconst C 0 (by decide) dX7_doesNext_52 ?_
          refine g_eqst (st1 := ([.int (nI 0), .ref (adr 0)] : List Value)) rfl ?_
          have hdu : dueN (chF L ch a) = 0 := (if_neg c29).trans ((if_neg c19).trans ((if_neg c35).trans (if_neg c45)))
          refine g_Vi C [.int (nI 0)] 0 7 (by omega) h_4 rfl (c_X7_reads l D kc N adr cell3 S Wa Bg As tx st (nI L) (nI (a + 1)) re nu mo sh L ch (a + 1) 0 ⟨h_4, h_5, h_6, h_7, h_8, h_9, h_10, h_11, h_12⟩ (by omega) rfl rfl htx hL60 (by omega) (by omega) (by omega)) (cwV 1 C.2.2.2.2.1 gX7_doesNext_X7_reads rfl rfl rfl (by decide +kernel) ⟨Nat.le_of_ble_eq_true rfl, Nat.le_of_ble_eq_true rfl⟩) rfl rfl (Nat.le_of_ble_eq_true rfl) (Nat.zero_le _) (Nat.zero_le _) dX7_doesNext_53 (fun v34 cell34 q34 => ?_)
          obtain ⟨at1, nu1, rfl, ⟨h_35, h_36, h_37, h_38, h_39, h_40, h_41, h_42, h_43⟩, hed⟩ := q34
          refine g_if_ne C 61 (by decide) dX7_doesNext_56 (fun c56 => ?_) (fun c56 => ?_)
          · -- taken at 56
            have c56' := bI_bt c56
            exact absurd (show true = false from c56'.symm.trans rfl) (by decide) --done
          · -- not taken at 56
            have c56' := bI_bf c56
            refine g_iconst C 1 (by decide) dX7_doesNext_59 ?_
            refine g_iret C hr rfl hlk dX7_doesNext_60 ?_
            have hed2 : edF L ch a = none := by rw [rd_ed, hdu]; exact Option.not_isSome_iff_eq_none.mp (by rw [c56']; decide)
            obtain ⟨hd1, hd2⟩ := dne_none hed2 hS
            exact ⟨_, _, _, _, hd1, ⟨h_35, h_36, h_37, h_38, h_39, h_40, h_41, h_42, h_43⟩, hd2, fun e h => by rw [hed2] at h; cases h⟩
        · -- not taken at 45
          have c45' := i_eq c45
          refine g_iconst C 3 (by decide) dX7_doesNext_48 ?_
          refine g_goto C 53 (by decide) dX7_doesNext_49 ?_
          refine g_eqst (st1 := ([.int (nI 3), .ref (adr 0)] : List Value)) rfl ?_
          have hdu : dueN (chF L ch a) = 3 := (if_neg c29).trans ((if_neg c19).trans ((if_neg c35).trans (if_pos c45)))
          refine g_Vi C [.int (nI 3)] 0 7 (by omega) h_4 rfl (c_X7_reads l D kc N adr cell3 S Wa Bg As tx st (nI L) (nI (a + 1)) re nu mo sh L ch (a + 1) 3 ⟨h_4, h_5, h_6, h_7, h_8, h_9, h_10, h_11, h_12⟩ (by omega) rfl rfl htx hL60 (by omega) (by omega) (by omega)) (cwV 1 C.2.2.2.2.1 gX7_doesNext_X7_reads rfl rfl rfl (by decide +kernel) ⟨Nat.le_of_ble_eq_true rfl, Nat.le_of_ble_eq_true rfl⟩) rfl rfl (Nat.le_of_ble_eq_true rfl) (Nat.zero_le _) (Nat.zero_le _) dX7_doesNext_53 (fun v44 cell44 q44 => ?_)
          obtain ⟨at1, nu1, rfl, ⟨h_45, h_46, h_47, h_48, h_49, h_50, h_51, h_52, h_53⟩, hed⟩ := q44
          refine g_if_ne C 61 (by decide) dX7_doesNext_56 (fun c56 => ?_) (fun c56 => ?_)
          · -- taken at 56
            have c56' := bI_bt c56
            obtain ⟨e, he⟩ := Option.isSome_iff_exists.mp c56'
            obtain ⟨rfl, hnu⟩ := hed e he
            have hed2 : edF L ch a = some e := by rw [rd_ed, hdu]; exact he
            have hn0 : nvF L ch (a + 1) 0 = nu1 0 := (hnu 0 (by omega)).symm
            have hw0 := nv_rng L ch (a + 1) 0
            rw [hn0] at hw0
            have hn1 : nvF L ch (a + 1) 1 = nu1 1 := (hnu 1 (by omega)).symm
            have hw1 := nv_rng L ch (a + 1) 1
            rw [hn1] at hw1
            have hn2 : nvF L ch (a + 1) 2 = nu1 2 := (hnu 2 (by omega)).symm
            have hw2 := nv_rng L ch (a + 1) 2
            rw [hn2] at hw2
            refine g_iconst C 0 (by decide) dX7_doesNext_61 ?_
            refine g_istore_n C [(2, .int 0), (1, .int (chF L ch a)), (0, .ref (adr 0))] (by decide) rfl dX7_doesNext_62 ?_
            refine g_iload_n C 1 rfl dX7_doesNext_63 ?_
            by_cases c64_43 : (chF L ch a) = 43
            · have c64' := i_eq c64_43
              refine g_lookup C 100 (by decide) (by rw [c64_43] <;> rfl) (by decide) dX7_doesNext_64 ?_
              exact absurd (c64_43.symm.trans c45) (by decide)
            have c64n43 := i_ne c64_43
            by_cases c64_45 : (chF L ch a) = 45
            · have c64' := i_eq c64_45
              refine g_lookup C 120 (by decide) (by rw [c64_45] <;> rfl) (by decide) dX7_doesNext_64 ?_
              exact absurd (c64_45.symm.trans c45) (by decide)
            have c64n45 := i_ne c64_45
            by_cases c64_61 : (chF L ch a) = 61
            · have c64' := i_eq c64_61
              refine g_lookup C 134 (by decide) (by rw [c64_61] <;> rfl) (by decide) dX7_doesNext_64 ?_
              exact absurd (c64_61.symm.trans c45) (by decide)
            have c64n61 := i_ne c64_61
            refine g_lookup C 154 (by decide) (by show Op.lookupswitch.offset [(43, 36), (45, 56), (61, 70)] 90 _ = 90; rw [lv_osw c64_43 (by decide)]; rw [lv_osw c64_45 (by decide)]; rw [lv_osw c64_61 (by decide)]; rfl) (by decide) dX7_doesNext_64 ?_
            refine g_aload_n C 2 rfl dX7_doesNext_154 ?_
            refine g_aload_n C 2 rfl dX7_doesNext_155 ?_
            refine g_get C 0 7 9 (by omega) h_45 rfl in7 (by decide) f26 (fun _ h9 => h9) rfl dX7_doesNext_156 ?_
            refine g_iconst C 0 (by decide) dX7_doesNext_159 ?_
            refine g_iald C 6 (by omega) h_51 (vp_in_iff.mpr (by omega)) dX7_doesNext_160 ?_
            refine g_eqst (st1 := ([.int (nu1 0), .ref (adr 0)] : List Value)) rfl ?_
            refine g_aload_n C 2 rfl dX7_doesNext_161 ?_
            refine g_get C 0 7 9 (by omega) h_45 rfl in7 (by decide) f26 (fun _ h9 => h9) rfl dX7_doesNext_162 ?_
            refine g_iconst C 1 (by decide) dX7_doesNext_165 ?_
            refine g_iald C 6 (by omega) h_51 (vp_in_iff.mpr (by omega)) dX7_doesNext_166 ?_
            refine g_eqst (st1 := ([.int (nu1 1), .int (nu1 0), .ref (adr 0)] : List Value)) rfl ?_
            refine g_aload_n C 2 rfl dX7_doesNext_167 ?_
            refine g_get C 0 7 9 (by omega) h_45 rfl in7 (by decide) f26 (fun _ h9 => h9) rfl dX7_doesNext_168 ?_
            refine g_iconst C 2 (by decide) dX7_doesNext_171 ?_
            refine g_iald C 6 (by omega) h_51 (vp_in_iff.mpr (by omega)) dX7_doesNext_172 ?_
            refine g_eqst (st1 := ([.int (nu1 2), .int (nu1 1), .int (nu1 0), .ref (adr 0)] : List Value)) rfl ?_
            refine g_Vi C [.int (nu1 0), .int (nu1 1), .int (nu1 2)] 0 7 (by omega) h_45 rfl (c_X7_moves l D kc N adr cell44 S Wa Bg As tx st (nI L) (nI e) re nu1 mo sh σ (nu1 0) (nu1 1) (nu1 2) ⟨h_45, h_46, h_47, h_48, h_49, h_50, h_51, h_52, h_53⟩ (by omega) hS hG) (cwV 3 C.2.2.2.2.1 gX7_doesNext_X7_moves rfl rfl rfl (by decide +kernel) ⟨Nat.le_of_ble_eq_true rfl, Nat.le_of_ble_eq_true rfl⟩) rfl rfl (Nat.le_of_ble_eq_true rfl) (Nat.zero_le _) (Nat.zero_le _) dX7_doesNext_173 (fun v54 cell54 q54 => ?_)
            obtain ⟨rfl, S1, mo1, ⟨h_55, h_56, h_57, h_58, h_59, h_60, h_61, h_62, h_63⟩, hS1⟩ := q54
            refine g_istore_n C [(2, .int (moveR σ (nu1 0) (nu1 1) (nu1 2))), (1, .int (chF L ch a)), (0, .ref (adr 0))] (by decide) rfl dX7_doesNext_176 ?_
            refine g_iload_n C 0 rfl dX7_doesNext_177 ?_
            refine g_ldc C (-1000001) k43 dX7_doesNext_178 ?_
            refine g_icmp_ne C 187 (by decide) dX7_doesNext_180 (fun c180 => ?_) (fun c180 => ?_)
            · -- taken at 180
              have c180' := i_ne c180
              refine g_iload_n C 0 rfl dX7_doesNext_187 ?_
              refine g_ldc C (-1000003) k52 dX7_doesNext_188 ?_
              refine g_icmp_ne C 197 (by decide) dX7_doesNext_190 (fun c190 => ?_) (fun c190 => ?_)
              · -- taken at 190
                have c190' := i_ne c190
                refine g_iconst C 0 (by decide) dX7_doesNext_197 ?_
                refine g_iret C hr rfl hlk dX7_doesNext_198 ?_
                have hpl := pl_move (p := nu1 0) (k := nu1 1) (t := nu1 2) hG c45
                obtain ⟨hd1, hd2⟩ := dne_ok hed2 (by unfold flE apE; rw [hn0, hn1, hn2]; exact hpl) hS1
                exact ⟨_, _, _, _, hd1.trans (rcd_n c180 c190), ⟨h_55, h_56, h_57, h_58, h_59, h_60, h_61, h_62, h_63⟩, hd2, fun e1 h => by rw [hed2] at h; cases h; rfl⟩
              · -- not taken at 190
                have c190' := i_eq c190
                refine g_iconst C 3 (by decide) dX7_doesNext_193 ?_
                refine g_goto C 198 (by decide) dX7_doesNext_194 ?_
                refine g_iret C hr rfl hlk dX7_doesNext_198 ?_
                have hpl := pl_move (p := nu1 0) (k := nu1 1) (t := nu1 2) hG c45
                obtain ⟨hd1, hd2⟩ := dne_ok hed2 (by unfold flE apE; rw [hn0, hn1, hn2]; exact hpl) hS1
                exact ⟨_, _, _, _, hd1.trans (rcd_3 c180 c190), ⟨h_55, h_56, h_57, h_58, h_59, h_60, h_61, h_62, h_63⟩, hd2, fun e1 h => by rw [hed2] at h; cases h; rfl⟩
            · -- not taken at 180
              have c180' := i_eq c180
              refine g_iconst C 2 (by decide) dX7_doesNext_183 ?_
              refine g_goto C 198 (by decide) dX7_doesNext_184 ?_
              refine g_iret C hr rfl hlk dX7_doesNext_198 ?_
              have hpl := pl_move (p := nu1 0) (k := nu1 1) (t := nu1 2) hG c45
              obtain ⟨hd1, hd2⟩ := dne_ok hed2 (by unfold flE apE; rw [hn0, hn1, hn2]; exact hpl) hS1
              exact ⟨_, _, _, _, hd1.trans (rcd_2 c180), ⟨h_55, h_56, h_57, h_58, h_59, h_60, h_61, h_62, h_63⟩, hd2, fun e1 h => by rw [hed2] at h; cases h; rfl⟩
          · -- not taken at 56
            have c56' := bI_bf c56
            refine g_iconst C 1 (by decide) dX7_doesNext_59 ?_
            refine g_iret C hr rfl hlk dX7_doesNext_60 ?_
            have hed2 : edF L ch a = none := by rw [rd_ed, hdu]; exact Option.not_isSome_iff_eq_none.mp (by rw [c56']; decide)
            obtain ⟨hd1, hd2⟩ := dne_none hed2 hS
            exact ⟨_, _, _, _, hd1, ⟨h_45, h_46, h_47, h_48, h_49, h_50, h_51, h_52, h_53⟩, hd2, fun e h => by rw [hed2] at h; cases h⟩
      · -- not taken at 35
        have c35' := i_eq c35
        refine g_iconst C 2 (by decide) dX7_doesNext_38 ?_
        refine g_goto C 53 (by decide) dX7_doesNext_39 ?_
        refine g_eqst (st1 := ([.int (nI 2), .ref (adr 0)] : List Value)) rfl ?_
        have hdu : dueN (chF L ch a) = 2 := (if_neg c29).trans ((if_neg c19).trans (if_pos c35))
        refine g_Vi C [.int (nI 2)] 0 7 (by omega) h_4 rfl (c_X7_reads l D kc N adr cell3 S Wa Bg As tx st (nI L) (nI (a + 1)) re nu mo sh L ch (a + 1) 2 ⟨h_4, h_5, h_6, h_7, h_8, h_9, h_10, h_11, h_12⟩ (by omega) rfl rfl htx hL60 (by omega) (by omega) (by omega)) (cwV 1 C.2.2.2.2.1 gX7_doesNext_X7_reads rfl rfl rfl (by decide +kernel) ⟨Nat.le_of_ble_eq_true rfl, Nat.le_of_ble_eq_true rfl⟩) rfl rfl (Nat.le_of_ble_eq_true rfl) (Nat.zero_le _) (Nat.zero_le _) dX7_doesNext_53 (fun v64 cell64 q64 => ?_)
        obtain ⟨at1, nu1, rfl, ⟨h_65, h_66, h_67, h_68, h_69, h_70, h_71, h_72, h_73⟩, hed⟩ := q64
        refine g_if_ne C 61 (by decide) dX7_doesNext_56 (fun c56 => ?_) (fun c56 => ?_)
        · -- taken at 56
          have c56' := bI_bt c56
          obtain ⟨e, he⟩ := Option.isSome_iff_exists.mp c56'
          obtain ⟨rfl, hnu⟩ := hed e he
          have hed2 : edF L ch a = some e := by rw [rd_ed, hdu]; exact he
          have hn0 : nvF L ch (a + 1) 0 = nu1 0 := (hnu 0 (by omega)).symm
          have hw0 := nv_rng L ch (a + 1) 0
          rw [hn0] at hw0
          have hn1 : nvF L ch (a + 1) 1 = nu1 1 := (hnu 1 (by omega)).symm
          have hw1 := nv_rng L ch (a + 1) 1
          rw [hn1] at hw1
          refine g_iconst C 0 (by decide) dX7_doesNext_61 ?_
          refine g_istore_n C [(2, .int 0), (1, .int (chF L ch a)), (0, .ref (adr 0))] (by decide) rfl dX7_doesNext_62 ?_
          refine g_iload_n C 1 rfl dX7_doesNext_63 ?_
          by_cases c64_43 : (chF L ch a) = 43
          · have c64' := i_eq c64_43
            refine g_lookup C 100 (by decide) (by rw [c64_43] <;> rfl) (by decide) dX7_doesNext_64 ?_
            exact absurd (c64_43.symm.trans c35) (by decide)
          have c64n43 := i_ne c64_43
          by_cases c64_45 : (chF L ch a) = 45
          · have c64' := i_eq c64_45
            refine g_lookup C 120 (by decide) (by rw [c64_45] <;> rfl) (by decide) dX7_doesNext_64 ?_
            exact absurd (c64_45.symm.trans c35) (by decide)
          have c64n45 := i_ne c64_45
          by_cases c64_61 : (chF L ch a) = 61
          · have c64' := i_eq c64_61
            refine g_lookup C 134 (by decide) (by rw [c64_61] <;> rfl) (by decide) dX7_doesNext_64 ?_
            refine g_aload_n C 2 rfl dX7_doesNext_134 ?_
            refine g_aload_n C 2 rfl dX7_doesNext_135 ?_
            refine g_get C 0 7 9 (by omega) h_65 rfl in7 (by decide) f26 (fun _ h9 => h9) rfl dX7_doesNext_136 ?_
            refine g_iconst C 0 (by decide) dX7_doesNext_139 ?_
            refine g_iald C 6 (by omega) h_71 (vp_in_iff.mpr (by omega)) dX7_doesNext_140 ?_
            refine g_eqst (st1 := ([.int (nu1 0), .ref (adr 0)] : List Value)) rfl ?_
            refine g_aload_n C 2 rfl dX7_doesNext_141 ?_
            refine g_get C 0 7 9 (by omega) h_65 rfl in7 (by decide) f26 (fun _ h9 => h9) rfl dX7_doesNext_142 ?_
            refine g_iconst C 1 (by decide) dX7_doesNext_145 ?_
            refine g_iald C 6 (by omega) h_71 (vp_in_iff.mpr (by omega)) dX7_doesNext_146 ?_
            refine g_eqst (st1 := ([.int (nu1 1), .int (nu1 0), .ref (adr 0)] : List Value)) rfl ?_
            refine g_Vi C [.int (nu1 0), .int (nu1 1)] 0 7 (by omega) h_65 rfl (c_X7_changes l D kc N adr cell64 S Wa Bg As tx st (nI L) (nI e) re nu1 mo sh σ (nu1 0) (nu1 1) ⟨h_65, h_66, h_67, h_68, h_69, h_70, h_71, h_72, h_73⟩ (by omega) hS hG) (cwV 2 C.2.2.2.2.1 gX7_doesNext_X7_changes rfl rfl rfl (by decide +kernel) ⟨Nat.le_of_ble_eq_true rfl, Nat.le_of_ble_eq_true rfl⟩) rfl rfl (Nat.le_of_ble_eq_true rfl) (Nat.zero_le _) (Nat.zero_le _) dX7_doesNext_147 (fun v74 cell74 q74 => ?_)
            obtain ⟨rfl, S1, ⟨h_75, h_76, h_77, h_78, h_79, h_80, h_81, h_82, h_83⟩, hS1⟩ := q74
            refine g_istore_n C [(2, .int (changeR σ (nu1 0) (nu1 1))), (1, .int (chF L ch a)), (0, .ref (adr 0))] (by decide) rfl dX7_doesNext_150 ?_
            refine g_goto C 177 (by decide) dX7_doesNext_151 ?_
            refine g_iload_n C 0 rfl dX7_doesNext_177 ?_
            refine g_ldc C (-1000001) k43 dX7_doesNext_178 ?_
            refine g_icmp_ne C 187 (by decide) dX7_doesNext_180 (fun c180 => ?_) (fun c180 => ?_)
            · -- taken at 180
              have c180' := i_ne c180
              refine g_iload_n C 0 rfl dX7_doesNext_187 ?_
              refine g_ldc C (-1000003) k52 dX7_doesNext_188 ?_
              refine g_icmp_ne C 197 (by decide) dX7_doesNext_190 (fun c190 => ?_) (fun c190 => ?_)
              · -- taken at 190
                have c190' := i_ne c190
                refine g_iconst C 0 (by decide) dX7_doesNext_197 ?_
                refine g_iret C hr rfl hlk dX7_doesNext_198 ?_
                have hpl := pl_change (p := nu1 0) hG c35 hw1 (t := nvF L ch (a + 1) 2)
                obtain ⟨hd1, hd2⟩ := dne_ok hed2 (by unfold flE apE; rw [hn0, hn1]; exact hpl) hS1
                exact ⟨_, _, _, _, hd1.trans (rcd_n c180 c190), ⟨h_75, h_76, h_77, h_78, h_79, h_80, h_81, h_82, h_83⟩, hd2, fun e1 h => by rw [hed2] at h; cases h; rfl⟩
              · -- not taken at 190
                have c190' := i_eq c190
                refine g_iconst C 3 (by decide) dX7_doesNext_193 ?_
                refine g_goto C 198 (by decide) dX7_doesNext_194 ?_
                refine g_iret C hr rfl hlk dX7_doesNext_198 ?_
                have hpl := pl_change (p := nu1 0) hG c35 hw1 (t := nvF L ch (a + 1) 2)
                obtain ⟨hd1, hd2⟩ := dne_ok hed2 (by unfold flE apE; rw [hn0, hn1]; exact hpl) hS1
                exact ⟨_, _, _, _, hd1.trans (rcd_3 c180 c190), ⟨h_75, h_76, h_77, h_78, h_79, h_80, h_81, h_82, h_83⟩, hd2, fun e1 h => by rw [hed2] at h; cases h; rfl⟩
            · -- not taken at 180
              have c180' := i_eq c180
              refine g_iconst C 2 (by decide) dX7_doesNext_183 ?_
              refine g_goto C 198 (by decide) dX7_doesNext_184 ?_
              refine g_iret C hr rfl hlk dX7_doesNext_198 ?_
              have hpl := pl_change (p := nu1 0) hG c35 hw1 (t := nvF L ch (a + 1) 2)
              obtain ⟨hd1, hd2⟩ := dne_ok hed2 (by unfold flE apE; rw [hn0, hn1]; exact hpl) hS1
              exact ⟨_, _, _, _, hd1.trans (rcd_2 c180), ⟨h_75, h_76, h_77, h_78, h_79, h_80, h_81, h_82, h_83⟩, hd2, fun e1 h => by rw [hed2] at h; cases h; rfl⟩
          have c64n61 := i_ne c64_61
          refine g_lookup C 154 (by decide) (by show Op.lookupswitch.offset [(43, 36), (45, 56), (61, 70)] 90 _ = 90; rw [lv_osw c64_43 (by decide)]; rw [lv_osw c64_45 (by decide)]; rw [lv_osw c64_61 (by decide)]; rfl) (by decide) dX7_doesNext_64 ?_
          exact absurd c35 c64_61
        · -- not taken at 56
          have c56' := bI_bf c56
          refine g_iconst C 1 (by decide) dX7_doesNext_59 ?_
          refine g_iret C hr rfl hlk dX7_doesNext_60 ?_
          have hed2 : edF L ch a = none := by rw [rd_ed, hdu]; exact Option.not_isSome_iff_eq_none.mp (by rw [c56']; decide)
          obtain ⟨hd1, hd2⟩ := dne_none hed2 hS
          exact ⟨_, _, _, _, hd1, ⟨h_65, h_66, h_67, h_68, h_69, h_70, h_71, h_72, h_73⟩, hd2, fun e h => by rw [hed2] at h; cases h⟩
  · -- not taken at 19
    have c19' := i_eq c19
    refine g_iconst C 1 (by decide) dX7_doesNext_22 ?_
    refine g_goto C 53 (by decide) dX7_doesNext_23 ?_
    refine g_eqst (st1 := ([.int (nI 1), .ref (adr 0)] : List Value)) rfl ?_
    have hdu : dueN (chF L ch a) = 1 := (if_neg (by rw [c19]; decide)).trans (if_pos c19)
    refine g_Vi C [.int (nI 1)] 0 7 (by omega) h_4 rfl (c_X7_reads l D kc N adr cell3 S Wa Bg As tx st (nI L) (nI (a + 1)) re nu mo sh L ch (a + 1) 1 ⟨h_4, h_5, h_6, h_7, h_8, h_9, h_10, h_11, h_12⟩ (by omega) rfl rfl htx hL60 (by omega) (by omega) (by omega)) (cwV 1 C.2.2.2.2.1 gX7_doesNext_X7_reads rfl rfl rfl (by decide +kernel) ⟨Nat.le_of_ble_eq_true rfl, Nat.le_of_ble_eq_true rfl⟩) rfl rfl (Nat.le_of_ble_eq_true rfl) (Nat.zero_le _) (Nat.zero_le _) dX7_doesNext_53 (fun v84 cell84 q84 => ?_)
    obtain ⟨at1, nu1, rfl, ⟨h_85, h_86, h_87, h_88, h_89, h_90, h_91, h_92, h_93⟩, hed⟩ := q84
    refine g_if_ne C 61 (by decide) dX7_doesNext_56 (fun c56 => ?_) (fun c56 => ?_)
    · -- taken at 56
      have c56' := bI_bt c56
      obtain ⟨e, he⟩ := Option.isSome_iff_exists.mp c56'
      obtain ⟨rfl, hnu⟩ := hed e he
      have hed2 : edF L ch a = some e := by rw [rd_ed, hdu]; exact he
      have hn0 : nvF L ch (a + 1) 0 = nu1 0 := (hnu 0 (by omega)).symm
      have hw0 := nv_rng L ch (a + 1) 0
      rw [hn0] at hw0
      refine g_iconst C 0 (by decide) dX7_doesNext_61 ?_
      refine g_istore_n C [(2, .int 0), (1, .int (chF L ch a)), (0, .ref (adr 0))] (by decide) rfl dX7_doesNext_62 ?_
      refine g_iload_n C 1 rfl dX7_doesNext_63 ?_
      by_cases c64_43 : (chF L ch a) = 43
      · have c64' := i_eq c64_43
        refine g_lookup C 100 (by decide) (by rw [c64_43] <;> rfl) (by decide) dX7_doesNext_64 ?_
        exact absurd (c64_43.symm.trans c19) (by decide)
      have c64n43 := i_ne c64_43
      by_cases c64_45 : (chF L ch a) = 45
      · have c64' := i_eq c64_45
        refine g_lookup C 120 (by decide) (by rw [c64_45] <;> rfl) (by decide) dX7_doesNext_64 ?_
        refine g_aload_n C 2 rfl dX7_doesNext_120 ?_
        refine g_aload_n C 2 rfl dX7_doesNext_121 ?_
        refine g_get C 0 7 9 (by omega) h_85 rfl in7 (by decide) f26 (fun _ h9 => h9) rfl dX7_doesNext_122 ?_
        refine g_iconst C 0 (by decide) dX7_doesNext_125 ?_
        refine g_iald C 6 (by omega) h_91 (vp_in_iff.mpr (by omega)) dX7_doesNext_126 ?_
        refine g_eqst (st1 := ([.int (nu1 0), .ref (adr 0)] : List Value)) rfl ?_
        refine g_Vi C [.int (nu1 0)] 0 7 (by omega) h_85 rfl (c_X7_takes l D kc N adr cell84 S Wa Bg As tx st (nI L) (nI e) re nu1 mo sh σ (nu1 0) ⟨h_85, h_86, h_87, h_88, h_89, h_90, h_91, h_92, h_93⟩ (by omega) hS hG) (cwV 1 C.2.2.2.2.1 gX7_doesNext_X7_takes rfl rfl rfl (by decide +kernel) ⟨Nat.le_of_ble_eq_true rfl, Nat.le_of_ble_eq_true rfl⟩) rfl rfl (Nat.le_of_ble_eq_true rfl) (Nat.zero_le _) (Nat.zero_le _) dX7_doesNext_127 (fun v94 cell94 q94 => ?_)
        obtain ⟨rfl, S1, ⟨h_95, h_96, h_97, h_98, h_99, h_100, h_101, h_102, h_103⟩, hS1⟩ := q94
        refine g_istore_n C [(2, .int (takeR σ (nu1 0))), (1, .int (chF L ch a)), (0, .ref (adr 0))] (by decide) rfl dX7_doesNext_130 ?_
        refine g_goto C 177 (by decide) dX7_doesNext_131 ?_
        refine g_iload_n C 0 rfl dX7_doesNext_177 ?_
        refine g_ldc C (-1000001) k43 dX7_doesNext_178 ?_
        refine g_icmp_ne C 187 (by decide) dX7_doesNext_180 (fun c180 => ?_) (fun c180 => ?_)
        · -- taken at 180
          have c180' := i_ne c180
          refine g_iload_n C 0 rfl dX7_doesNext_187 ?_
          refine g_ldc C (-1000003) k52 dX7_doesNext_188 ?_
          refine g_icmp_ne C 197 (by decide) dX7_doesNext_190 (fun c190 => ?_) (fun c190 => ?_)
          · -- taken at 190
            have c190' := i_ne c190
            refine g_iconst C 0 (by decide) dX7_doesNext_197 ?_
            refine g_iret C hr rfl hlk dX7_doesNext_198 ?_
            have hpl := pl_take (p := nu1 0) hG c19 (k := nvF L ch (a + 1) 1) (t := nvF L ch (a + 1) 2)
            obtain ⟨hd1, hd2⟩ := dne_ok hed2 (by unfold flE apE; rw [hn0]; exact hpl) hS1
            exact ⟨_, _, _, _, hd1.trans (rcd_n c180 c190), ⟨h_95, h_96, h_97, h_98, h_99, h_100, h_101, h_102, h_103⟩, hd2, fun e1 h => by rw [hed2] at h; cases h; rfl⟩
          · -- not taken at 190
            have c190' := i_eq c190
            refine g_iconst C 3 (by decide) dX7_doesNext_193 ?_
            refine g_goto C 198 (by decide) dX7_doesNext_194 ?_
            refine g_iret C hr rfl hlk dX7_doesNext_198 ?_
            have hpl := pl_take (p := nu1 0) hG c19 (k := nvF L ch (a + 1) 1) (t := nvF L ch (a + 1) 2)
            obtain ⟨hd1, hd2⟩ := dne_ok hed2 (by unfold flE apE; rw [hn0]; exact hpl) hS1
            exact ⟨_, _, _, _, hd1.trans (rcd_3 c180 c190), ⟨h_95, h_96, h_97, h_98, h_99, h_100, h_101, h_102, h_103⟩, hd2, fun e1 h => by rw [hed2] at h; cases h; rfl⟩
        · -- not taken at 180
          have c180' := i_eq c180
          refine g_iconst C 2 (by decide) dX7_doesNext_183 ?_
          refine g_goto C 198 (by decide) dX7_doesNext_184 ?_
          refine g_iret C hr rfl hlk dX7_doesNext_198 ?_
          have hpl := pl_take (p := nu1 0) hG c19 (k := nvF L ch (a + 1) 1) (t := nvF L ch (a + 1) 2)
          obtain ⟨hd1, hd2⟩ := dne_ok hed2 (by unfold flE apE; rw [hn0]; exact hpl) hS1
          exact ⟨_, _, _, _, hd1.trans (rcd_2 c180), ⟨h_95, h_96, h_97, h_98, h_99, h_100, h_101, h_102, h_103⟩, hd2, fun e1 h => by rw [hed2] at h; cases h; rfl⟩
      have c64n45 := i_ne c64_45
      by_cases c64_61 : (chF L ch a) = 61
      · have c64' := i_eq c64_61
        refine g_lookup C 134 (by decide) (by rw [c64_61] <;> rfl) (by decide) dX7_doesNext_64 ?_
        exact absurd (c64_61.symm.trans c19) (by decide)
      have c64n61 := i_ne c64_61
      refine g_lookup C 154 (by decide) (by show Op.lookupswitch.offset [(43, 36), (45, 56), (61, 70)] 90 _ = 90; rw [lv_osw c64_43 (by decide)]; rw [lv_osw c64_45 (by decide)]; rw [lv_osw c64_61 (by decide)]; rfl) (by decide) dX7_doesNext_64 ?_
      exact absurd c19 c64_45
    · -- not taken at 56
      have c56' := bI_bf c56
      refine g_iconst C 1 (by decide) dX7_doesNext_59 ?_
      refine g_iret C hr rfl hlk dX7_doesNext_60 ?_
      have hed2 : edF L ch a = none := by rw [rd_ed, hdu]; exact Option.not_isSome_iff_eq_none.mp (by rw [c56']; decide)
      obtain ⟨hd1, hd2⟩ := dne_none hed2 hS
      exact ⟨_, _, _, _, hd1, ⟨h_85, h_86, h_87, h_88, h_89, h_90, h_91, h_92, h_93⟩, hd2, fun e h => by rw [hed2] at h; cases h⟩
