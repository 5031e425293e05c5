set_option maxRecDepth 100000 in
set_option maxHeartbeats 4000000 in
theorem c_X7_reads (l : Launch) (D : va_G) (kc : Nat → ClassId) (N : Nat) (adr : Nat → Nat) (cell : Nat → va_E) (S Wa Bg As tx : Nat → Int32) (st ty at' re : Int32) (nu mo sh : Nat → Int32) (L : Nat) (ch : Nat → Int32) (a : Nat) (d : Nat) (hB : MB cell adr kc S Wa Bg As st tx ty at' re nu mo sh) (hN : 9 ≤ N) (hat : at' = nI a) (hty : ty = nI L) (htx : ∀ j : Nat, j < L → tx j = ch j) (hL60 : L ≤ 60) (ha : a < 1000) (hd : d ≤ 3) (ha2 : a < 80) : MI l yX7_reads wsX7_reads ({ frames := 2, cells := 0, slots := 0, locals := 45 }) D kc N adr cell [.ref (adr 0), .int (nI d)] (fun (v : Int32) (cell1 : Nat → va_E) => ∃ (at1 : Nat) (nu1 : Nat → Int32), bI (rdF L ch a d).isSome = v ∧ MB cell1 adr kc S Wa Bg As st tx (nI L) (nI at1) re nu1 mo sh ∧ ∀ e : Nat, rdF L ch a d = some e → e = at1 ∧ ∀ j : Nat, j < d → nu1 j = nvF L ch a j) := by
  refine met_i (cc := cX7_reads) (maxL := 4) (ret := (some .boolean)) (by decide) rfl (Nat.le_of_ble_eq_true rfl) (lv := [(0, .ref (adr 0)), (1, .int (nI d))]) rfl ?_
  intro Pg Ev Sv Mi args below Me Cd Ar C hr hlk hnm
  have in7 : ∀ w ∈ u_ws RX7 TX7 12, w ∈ wsX7_reads := by decide +kernel
  have f142 := C.2.2.2.2.1 (.fieldLink RX7 142 "WordAnchorsModel" "at" "I") (by decide +kernel)
  subst hat hty
  have hB0 := hB
  obtain ⟨m0, m1, m2, m3, m4, m5, m6, m7, m8⟩ := hB
  have litm1 : ((-1) : Int32).toInt = -1 := rfl
  have lit0 : (0 : Int32).toInt = 0 := rfl
  have lit1 : (1 : Int32).toInt = 1 := rfl
  have lit44 : (44 : Int32).toInt = 44 := rfl
  have lit59 : (59 : Int32).toInt = 59 := rfl
  have tn_a : (nI a).toInt = ((a : Nat) : Int) := nI_toInt (by omega)
  have tn_L : (nI L).toInt = ((L : Nat) : Int) := nI_toInt (by omega)
  have tn_d : (nI d).toInt = ((d : Nat) : Int) := nI_toInt (by omega)
  refine g_iload_n C 1 rfl dX7_reads_0 ?_
  refine g_if_le C 8 (by decide) dX7_reads_1 (fun c1 => ?_) (fun c1 => ?_)
  · -- taken at 1
    have c1' := i_le c1
    refine g_iconst C 0 (by decide) dX7_reads_8 ?_
    refine g_istore_n C [(2, .int 0), (0, .ref (adr 0)), (1, .int (nI d))] (by decide) rfl dX7_reads_9 ?_
    refine g_iconst C 0 (by decide) dX7_reads_10 ?_
    refine g_istore_n C [(3, .int 0), (2, .int 0), (0, .ref (adr 0)), (1, .int (nI d))] (by decide) rfl dX7_reads_11 ?_
    refine g_iload_n C 0 rfl dX7_reads_12 ?_
    refine g_iload_n C 3 rfl dX7_reads_13 ?_
    refine g_icmp_ge C 74 (by decide) dX7_reads_14 (fun c14 => ?_) (fun c14 => ?_)
    · -- taken at 14
      have c14' := i_le c14
      refine g_iload_n C 1 rfl dX7_reads_74 ?_
      refine g_if_eq C 91 (by decide) dX7_reads_75 (fun c75 => ?_) (fun c75 => ?_)
      · -- taken at 75
        have c75' := i_eq c75
        refine g_iconst C 0 (by decide) dX7_reads_91 ?_
        refine g_istore_n C [(2, .int 0), (3, .int 0), (0, .ref (adr 0)), (1, .int (nI d))] (by decide) rfl dX7_reads_92 ?_
        refine g_aload_n C 2 rfl dX7_reads_93 ?_
        refine g_dup C rfl dX7_reads_94 ?_
        refine g_get C 0 7 7 (by omega) m0 rfl in7 (by decide) f142 (fun _ h9 => h9) rfl dX7_reads_95 ?_
        refine g_iconst C 1 (by decide) dX7_reads_98 ?_
        refine g_iadd C dX7_reads_99 ?_
        refine g_eqst (st1 := ([.int (nI (a + 1)), .ref (adr 0)] : List Value)) (congrArg (fun z0 : Int32 => (([.int z0, .ref (adr 0)] : List Value))) (mI_add a 1)) ?_
        refine g_put C 0 7 7 (by omega) m0 rfl in7 tyX7 tyX7_ok nmX7 (by decide) f142 (fun _ h9 => h9) rfl (ty := .int) (by decide +kernel) rfl rfl (Nat.le_of_ble_eq_true rfl) dX7_reads_100 ?_
        refine g_cell (fun cell1 ec1 => ?_)
        have h_2 : cell1 0 = .inr (7, [.ref (adr 1), .ref (adr 2), .ref (adr 3), .ref (adr 4), .int st, .ref (adr 5), .int (nI L), .int (nI (a + 1)), .int re, .ref (adr 6), .ref (adr 7), .ref (adr 8)]) := by rw [ec1]; exact va_up_self _ _ _
        have h_3 : cell1 1 = .inl (kc 0, 90, .inl S) := by rw [ec1, va_up_ne _ _ (by omega)]; exact m1
        have h_4 : cell1 2 = .inl (kc 0, 360, .inl Wa) := by rw [ec1, va_up_ne _ _ (by omega)]; exact m2
        have h_5 : cell1 3 = .inl (kc 0, 90, .inl Bg) := by rw [ec1, va_up_ne _ _ (by omega)]; exact m3
        have h_6 : cell1 4 = .inl (kc 0, 90, .inl As) := by rw [ec1, va_up_ne _ _ (by omega)]; exact m4
        have h_7 : cell1 5 = .inl (kc 1, 60, .inl tx) := by rw [ec1, va_up_ne _ _ (by omega)]; exact m5
        have h_8 : cell1 6 = .inl (kc 0, 3, .inl nu) := by rw [ec1, va_up_ne _ _ (by omega)]; exact m6
        have h_9 : cell1 7 = .inl (kc 0, 40, .inl mo) := by rw [ec1, va_up_ne _ _ (by omega)]; exact m7
        have h_10 : cell1 8 = .inl (kc 0, 6, .inl sh) := by rw [ec1, va_up_ne _ _ (by omega)]; exact m8
        refine g_iload_n C 0 rfl dX7_reads_103 ?_
        refine g_iret C hr rfl hlk dX7_reads_104 ?_
        have hd0 : d = 0 := by omega
        have he : rdF L ch a d = none := if_pos hd0
        exact ⟨_, _, by rw [he]; rfl, ⟨h_2, h_3, h_4, h_5, h_6, h_7, h_8, h_9, h_10⟩, fun e h => by rw [he] at h; cases h⟩
      · -- not taken at 75
        have c75' := i_ne c75
        exact absurd c75 (by decide)
    · -- not taken at 14
      have c14' := i_nle c14
      exfalso; omega --done
  · -- not taken at 1
    have c1' := i_nle c1
    refine g_iconst C 1 (by decide) dX7_reads_4 ?_
    refine g_goto C 9 (by decide) dX7_reads_5 ?_
    refine g_istore_n C [(2, .int 1), (0, .ref (adr 0)), (1, .int (nI d))] (by decide) rfl dX7_reads_9 ?_
    refine g_iconst C 0 (by decide) dX7_reads_10 ?_
    refine g_istore_n C [(3, .int 0), (2, .int 1), (0, .ref (adr 0)), (1, .int (nI d))] (by decide) rfl dX7_reads_11 ?_
    have L12 : ∀ (fu k : Nat) (cl : Nat → va_E) (x2 : Int32) (qv : Nat) (nuv : Nat → Int32), k ≤ d → d < k + fu → (q0 : cl 0 = .inr (7, [.ref (adr 1), .ref (adr 2), .ref (adr 3), .ref (adr 4), .int st, .ref (adr 5), .int (nI L), .int (nI qv), .int re, .ref (adr 6), .ref (adr 7), .ref (adr 8)])) → (q1 : cl 1 = .inl (kc 0, 90, .inl S)) → (q2 : cl 2 = .inl (kc 0, 360, .inl Wa)) → (q3 : cl 3 = .inl (kc 0, 90, .inl Bg)) → (q4 : cl 4 = .inl (kc 0, 90, .inl As)) → (q5 : cl 5 = .inl (kc 1, 60, .inl tx)) → (q6 : cl 6 = .inl (kc 0, 3, .inl nuv)) → (q7 : cl 7 = .inl (kc 0, 40, .inl mo)) → (q8 : cl 8 = .inl (kc 0, 6, .inl sh)) → (hx2 : x2 = bI (pnF L ch a k).isSome) → (hq0 : ∀ z : Nat, pnF L ch a k = some z → z = qv ∧ ∀ j : Nat, j < k → nuv j = nvF L ch a j) → (hqb : qv ≤ a + 3 * k) → G Pg l Ev (headSpec wsX7_reads { frames := 2, cells := 0, slots := 0, locals := 45 }).room Sv Mi args below Me Cd D N adr Ar Sv.heap 4 0 0 (MQ below (va_Qi (fun (v : Int32) (cell1 : Nat → va_E) => ∃ (at1 : Nat) (nu1 : Nat → Int32), bI (rdF L ch a d).isSome = v ∧ MB cell1 adr kc S Wa Bg As st tx (nI L) (nI at1) re nu1 mo sh ∧ ∀ e : Nat, rdF L ch a d = some e → e = at1 ∧ ∀ j : Nat, j < d → nu1 j = nvF L ch a j) (fun (cell1 : Nat → va_E) (t : State) => va_P D vwCl (wld N adr cell1) t.heap) Ar) args Sv 0 0 Ar) cl 12 [(0, .ref (adr 0)), (1, .int (nI d)), (2, .int x2), (3, .int (nI k))] ([] : List Value) := by
      intro fu
      induction fu with
      | zero => intro k cl x2 qv nuv hle hfu; exact absurd hfu (by omega)
      | succ fu ih =>
        intro k cl x2 qv nuv hle12 hfu12 q0 q1 q2 q3 q4 q5 q6 q7 q8 hx2 hq0 hqb
        have tn_k : (nI k).toInt = ((k : Nat) : Int) := nI_toInt (by omega)
        refine g_iload_n C 3 rfl dX7_reads_12 ?_
        refine g_iload_n C 1 rfl dX7_reads_13 ?_
        refine g_icmp_ge C 74 (by decide) dX7_reads_14 (fun c14 => ?_) (fun c14 => ?_)
        · -- taken at 14
          have c14' := i_le c14
          refine g_iload_n C 2 rfl dX7_reads_74 ?_
          refine g_if_eq C 91 (by decide) dX7_reads_75 (fun c75 => ?_) (fun c75 => ?_)
          · -- taken at 75
            have c75' := i_eq c75
            refine g_iconst C 0 (by decide) dX7_reads_91 ?_
            refine g_istore_n C [(2, .int 0), (0, .ref (adr 0)), (1, .int (nI d)), (3, .int (nI k))] (by decide) rfl dX7_reads_92 ?_
            refine g_aload_n C 1 rfl dX7_reads_93 ?_
            refine g_dup C rfl dX7_reads_94 ?_
            refine g_get C 0 7 7 (by omega) q0 rfl in7 (by decide) f142 (fun _ h9 => h9) rfl dX7_reads_95 ?_
            refine g_iconst C 1 (by decide) dX7_reads_98 ?_
            refine g_iadd C dX7_reads_99 ?_
            refine g_eqst (st1 := ([.int (nI (qv + 1)), .ref (adr 0)] : List Value)) (congrArg (fun z0 : Int32 => (([.int z0, .ref (adr 0)] : List Value))) (mI_add qv 1)) ?_
            refine g_put C 0 7 7 (by omega) q0 rfl in7 tyX7 tyX7_ok nmX7 (by decide) f142 (fun _ h9 => h9) rfl (ty := .int) (by decide +kernel) rfl rfl (Nat.le_of_ble_eq_true rfl) dX7_reads_100 ?_
            refine g_cell (fun cell12 ec12 => ?_)
            have h_13 : cell12 0 = .inr (7, [.ref (adr 1), .ref (adr 2), .ref (adr 3), .ref (adr 4), .int st, .ref (adr 5), .int (nI L), .int (nI (qv + 1)), .int re, .ref (adr 6), .ref (adr 7), .ref (adr 8)]) := by rw [ec12]; exact va_up_self _ _ _
            have h_14 : cell12 1 = .inl (kc 0, 90, .inl S) := by rw [ec12, va_up_ne _ _ (by omega)]; exact q1
            have h_15 : cell12 2 = .inl (kc 0, 360, .inl Wa) := by rw [ec12, va_up_ne _ _ (by omega)]; exact q2
            have h_16 : cell12 3 = .inl (kc 0, 90, .inl Bg) := by rw [ec12, va_up_ne _ _ (by omega)]; exact q3
            have h_17 : cell12 4 = .inl (kc 0, 90, .inl As) := by rw [ec12, va_up_ne _ _ (by omega)]; exact q4
            have h_18 : cell12 5 = .inl (kc 1, 60, .inl tx) := by rw [ec12, va_up_ne _ _ (by omega)]; exact q5
            have h_19 : cell12 6 = .inl (kc 0, 3, .inl nuv) := by rw [ec12, va_up_ne _ _ (by omega)]; exact q6
            have h_20 : cell12 7 = .inl (kc 0, 40, .inl mo) := by rw [ec12, va_up_ne _ _ (by omega)]; exact q7
            have h_21 : cell12 8 = .inl (kc 0, 6, .inl sh) := by rw [ec12, va_up_ne _ _ (by omega)]; exact q8
            refine g_iload_n C 0 rfl dX7_reads_103 ?_
            refine g_iret C hr rfl hlk dX7_reads_104 ?_
            have hno : pnF L ch a k = none := Option.not_isSome_iff_eq_none.mp (by have h9 := c75; rw [hx2] at h9; rw [bI_bf h9]; decide)
            have he : rdF L ch a d = none := rd_pn (by omega) hno
            exact ⟨_, _, by rw [he]; rfl, ⟨h_13, h_14, h_15, h_16, h_17, h_18, h_19, h_20, h_21⟩, fun e h => by rw [he] at h; cases h⟩
          · -- not taken at 75
            have c75' := i_ne c75
            obtain ⟨z, hz⟩ := Option.isSome_iff_exists.mp (show (pnF L ch a k).isSome = true by rw [hx2] at c75; exact bI_bt c75)
            obtain ⟨rfl, hnu⟩ := hq0 z hz
            obtain rfl : d = k := by omega
            refine g_aload_n C 0 rfl dX7_reads_78 ?_
            refine g_Vi C [] 0 7 (by omega) q0 rfl (c_X7_sign l D kc N adr cl S Wa Bg As tx st (nI L) (nI z) re nuv mo sh L ch z  ⟨q0, q1, q2, q3, q4, q5, q6, q7, q8⟩ (by omega) rfl rfl htx hL60 (by omega)) (cwV 0 C.2.2.2.2.1 gX7_reads_X7_sign rfl rfl rfl (by decide +kernel) ⟨Nat.le_of_ble_eq_true rfl, Nat.le_of_ble_eq_true rfl⟩) rfl rfl (Nat.le_of_ble_eq_true rfl) (Nat.zero_le _) (Nat.zero_le _) dX7_reads_79 (fun v23 cell23 q23 => ?_)
            obtain ⟨rfl, rfl⟩ := q23
            refine g_bipush C 59 (by decide) dX7_reads_82 ?_
            refine g_icmp_ne C 91 (by decide) dX7_reads_84 (fun c84 => ?_) (fun c84 => ?_)
            · -- taken at 84
              have c84' := i_ne c84
              refine g_iconst C 0 (by decide) dX7_reads_91 ?_
              refine g_istore_n C [(2, .int 0), (0, .ref (adr 0)), (1, .int (nI d)), (3, .int (nI d))] (by decide) rfl dX7_reads_92 ?_
              refine g_aload_n C 1 rfl dX7_reads_93 ?_
              refine g_dup C rfl dX7_reads_94 ?_
              refine g_get C 0 7 7 (by omega) q0 rfl in7 (by decide) f142 (fun _ h9 => h9) rfl dX7_reads_95 ?_
              refine g_iconst C 1 (by decide) dX7_reads_98 ?_
              refine g_iadd C dX7_reads_99 ?_
              refine g_eqst (st1 := ([.int (nI (z + 1)), .ref (adr 0)] : List Value)) (congrArg (fun z0 : Int32 => (([.int z0, .ref (adr 0)] : List Value))) (mI_add z 1)) ?_
              refine g_put C 0 7 7 (by omega) q0 rfl in7 tyX7 tyX7_ok nmX7 (by decide) f142 (fun _ h9 => h9) rfl (ty := .int) (by decide +kernel) rfl rfl (Nat.le_of_ble_eq_true rfl) dX7_reads_100 ?_
              refine g_cell (fun cell24 ec24 => ?_)
              have h_25 : cell24 0 = .inr (7, [.ref (adr 1), .ref (adr 2), .ref (adr 3), .ref (adr 4), .int st, .ref (adr 5), .int (nI L), .int (nI (z + 1)), .int re, .ref (adr 6), .ref (adr 7), .ref (adr 8)]) := by rw [ec24]; exact va_up_self _ _ _
              have h_26 : cell24 1 = .inl (kc 0, 90, .inl S) := by rw [ec24, va_up_ne _ _ (by omega)]; exact q1
              have h_27 : cell24 2 = .inl (kc 0, 360, .inl Wa) := by rw [ec24, va_up_ne _ _ (by omega)]; exact q2
              have h_28 : cell24 3 = .inl (kc 0, 90, .inl Bg) := by rw [ec24, va_up_ne _ _ (by omega)]; exact q3
              have h_29 : cell24 4 = .inl (kc 0, 90, .inl As) := by rw [ec24, va_up_ne _ _ (by omega)]; exact q4
              have h_30 : cell24 5 = .inl (kc 1, 60, .inl tx) := by rw [ec24, va_up_ne _ _ (by omega)]; exact q5
              have h_31 : cell24 6 = .inl (kc 0, 3, .inl nuv) := by rw [ec24, va_up_ne _ _ (by omega)]; exact q6
              have h_32 : cell24 7 = .inl (kc 0, 40, .inl mo) := by rw [ec24, va_up_ne _ _ (by omega)]; exact q7
              have h_33 : cell24 8 = .inl (kc 0, 6, .inl sh) := by rw [ec24, va_up_ne _ _ (by omega)]; exact q8
              refine g_iload_n C 0 rfl dX7_reads_103 ?_
              refine g_iret C hr rfl hlk dX7_reads_104 ?_
              have he : rdF L ch a d = none := by rw [rd_some (by omega) hz]; exact if_neg (fun h => c84 ((sg_44 (by decide) (by decide)).mpr h))
              exact ⟨_, _, by rw [he]; rfl, ⟨h_25, h_26, h_27, h_28, h_29, h_30, h_31, h_32, h_33⟩, fun e h => by rw [he] at h; cases h⟩
            · -- not taken at 84
              have c84' := i_eq c84
              refine g_iconst C 1 (by decide) dX7_reads_87 ?_
              refine g_goto C 92 (by decide) dX7_reads_88 ?_
              refine g_istore_n C [(2, .int 1), (0, .ref (adr 0)), (1, .int (nI d)), (3, .int (nI d))] (by decide) rfl dX7_reads_92 ?_
              refine g_aload_n C 1 rfl dX7_reads_93 ?_
              refine g_dup C rfl dX7_reads_94 ?_
              refine g_get C 0 7 7 (by omega) q0 rfl in7 (by decide) f142 (fun _ h9 => h9) rfl dX7_reads_95 ?_
              refine g_iconst C 1 (by decide) dX7_reads_98 ?_
              refine g_iadd C dX7_reads_99 ?_
              refine g_eqst (st1 := ([.int (nI (z + 1)), .ref (adr 0)] : List Value)) (congrArg (fun z0 : Int32 => (([.int z0, .ref (adr 0)] : List Value))) (mI_add z 1)) ?_
              refine g_put C 0 7 7 (by omega) q0 rfl in7 tyX7 tyX7_ok nmX7 (by decide) f142 (fun _ h9 => h9) rfl (ty := .int) (by decide +kernel) rfl rfl (Nat.le_of_ble_eq_true rfl) dX7_reads_100 ?_
              refine g_cell (fun cell35 ec35 => ?_)
              have h_36 : cell35 0 = .inr (7, [.ref (adr 1), .ref (adr 2), .ref (adr 3), .ref (adr 4), .int st, .ref (adr 5), .int (nI L), .int (nI (z + 1)), .int re, .ref (adr 6), .ref (adr 7), .ref (adr 8)]) := by rw [ec35]; exact va_up_self _ _ _
              have h_37 : cell35 1 = .inl (kc 0, 90, .inl S) := by rw [ec35, va_up_ne _ _ (by omega)]; exact q1
              have h_38 : cell35 2 = .inl (kc 0, 360, .inl Wa) := by rw [ec35, va_up_ne _ _ (by omega)]; exact q2
              have h_39 : cell35 3 = .inl (kc 0, 90, .inl Bg) := by rw [ec35, va_up_ne _ _ (by omega)]; exact q3
              have h_40 : cell35 4 = .inl (kc 0, 90, .inl As) := by rw [ec35, va_up_ne _ _ (by omega)]; exact q4
              have h_41 : cell35 5 = .inl (kc 1, 60, .inl tx) := by rw [ec35, va_up_ne _ _ (by omega)]; exact q5
              have h_42 : cell35 6 = .inl (kc 0, 3, .inl nuv) := by rw [ec35, va_up_ne _ _ (by omega)]; exact q6
              have h_43 : cell35 7 = .inl (kc 0, 40, .inl mo) := by rw [ec35, va_up_ne _ _ (by omega)]; exact q7
              have h_44 : cell35 8 = .inl (kc 0, 6, .inl sh) := by rw [ec35, va_up_ne _ _ (by omega)]; exact q8
              refine g_iload_n C 0 rfl dX7_reads_103 ?_
              refine g_iret C hr rfl hlk dX7_reads_104 ?_
              have he : rdF L ch a d = some (z + 1) := by rw [rd_some (by omega) hz]; exact if_pos ((sg_44 (by decide) (by decide)).mp c84)
              exact ⟨_, _, by rw [he]; rfl, ⟨h_36, h_37, h_38, h_39, h_40, h_41, h_42, h_43, h_44⟩, fun e h => by rw [he] at h; cases h; exact ⟨rfl, hnu⟩⟩
        · -- not taken at 14
          have c14' := i_nle c14
          
          refine g_iload_n C 2 rfl dX7_reads_17 ?_
          refine g_if_eq C 74 (by decide) dX7_reads_18 (fun c18 => ?_) (fun c18 => ?_)
          · -- taken at 18
            have c18' := i_eq c18
            refine g_iload_n C 2 rfl dX7_reads_74 ?_
            refine g_if_eq C 91 (by decide) dX7_reads_75 (fun c75 => ?_) (fun c75 => ?_)
            · -- taken at 75
              have c75' := i_eq c75
              refine g_iconst C 0 (by decide) dX7_reads_91 ?_
              refine g_istore_n C [(2, .int 0), (0, .ref (adr 0)), (1, .int (nI d)), (3, .int (nI k))] (by decide) rfl dX7_reads_92 ?_
              refine g_aload_n C 1 rfl dX7_reads_93 ?_
              refine g_dup C rfl dX7_reads_94 ?_
              refine g_get C 0 7 7 (by omega) q0 rfl in7 (by decide) f142 (fun _ h9 => h9) rfl dX7_reads_95 ?_
              refine g_iconst C 1 (by decide) dX7_reads_98 ?_
              refine g_iadd C dX7_reads_99 ?_
              refine g_eqst (st1 := ([.int (nI (qv + 1)), .ref (adr 0)] : List Value)) (congrArg (fun z0 : Int32 => (([.int z0, .ref (adr 0)] : List Value))) (mI_add qv 1)) ?_
              refine g_put C 0 7 7 (by omega) q0 rfl in7 tyX7 tyX7_ok nmX7 (by decide) f142 (fun _ h9 => h9) rfl (ty := .int) (by decide +kernel) rfl rfl (Nat.le_of_ble_eq_true rfl) dX7_reads_100 ?_
              refine g_cell (fun cell46 ec46 => ?_)
              have h_47 : cell46 0 = .inr (7, [.ref (adr 1), .ref (adr 2), .ref (adr 3), .ref (adr 4), .int st, .ref (adr 5), .int (nI L), .int (nI (qv + 1)), .int re, .ref (adr 6), .ref (adr 7), .ref (adr 8)]) := by rw [ec46]; exact va_up_self _ _ _
              have h_48 : cell46 1 = .inl (kc 0, 90, .inl S) := by rw [ec46, va_up_ne _ _ (by omega)]; exact q1
              have h_49 : cell46 2 = .inl (kc 0, 360, .inl Wa) := by rw [ec46, va_up_ne _ _ (by omega)]; exact q2
              have h_50 : cell46 3 = .inl (kc 0, 90, .inl Bg) := by rw [ec46, va_up_ne _ _ (by omega)]; exact q3
              have h_51 : cell46 4 = .inl (kc 0, 90, .inl As) := by rw [ec46, va_up_ne _ _ (by omega)]; exact q4
              have h_52 : cell46 5 = .inl (kc 1, 60, .inl tx) := by rw [ec46, va_up_ne _ _ (by omega)]; exact q5
              have h_53 : cell46 6 = .inl (kc 0, 3, .inl nuv) := by rw [ec46, va_up_ne _ _ (by omega)]; exact q6
              have h_54 : cell46 7 = .inl (kc 0, 40, .inl mo) := by rw [ec46, va_up_ne _ _ (by omega)]; exact q7
              have h_55 : cell46 8 = .inl (kc 0, 6, .inl sh) := by rw [ec46, va_up_ne _ _ (by omega)]; exact q8
              refine g_iload_n C 0 rfl dX7_reads_103 ?_
              refine g_iret C hr rfl hlk dX7_reads_104 ?_
              have hno : pnF L ch a k = none := Option.not_isSome_iff_eq_none.mp (by have h9 := c75; rw [hx2] at h9; rw [bI_bf h9]; decide)
              have he : rdF L ch a d = none := rd_pn (by omega) hno
              exact ⟨_, _, by rw [he]; rfl, ⟨h_47, h_48, h_49, h_50, h_51, h_52, h_53, h_54, h_55⟩, fun e h => by rw [he] at h; cases h⟩
            · -- not taken at 75
              have c75' := i_ne c75
              exact absurd c18 c75 --done
          · -- not taken at 18
            have c18' := i_ne c18
            obtain ⟨z, hz⟩ := Option.isSome_iff_exists.mp (show (pnF L ch a k).isSome = true by rw [hx2] at c18; exact bI_bt c18)
            obtain ⟨rfl, hnu⟩ := hq0 z hz
            have hp1 := pn_s hz
            refine g_iload_n C 3 rfl dX7_reads_21 ?_
            refine g_if_le C 50 (by decide) dX7_reads_22 (fun c22 => ?_) (fun c22 => ?_)
            · -- taken at 22
              have c22' := i_le c22
              have hk0 : k = 0 := by omega
              have hbg : nbg k z = z := if_pos hk0
              have hcm : ¬ (¬ k = 0 ∧ ¬ chF L ch z = 44) := fun h => h.1 hk0
              refine g_iload_n C 2 rfl dX7_reads_50 ?_
              refine g_if_eq C 66 (by decide) dX7_reads_51 (fun c51 => ?_) (fun c51 => ?_)
              · -- taken at 51
                have c51' := i_eq c51
                exact absurd c51 c18 --done
              · -- not taken at 51
                have c51' := i_ne c51
                refine g_aload_n C 0 rfl dX7_reads_54 ?_
                refine g_iload_n C 3 rfl dX7_reads_55 ?_
                refine g_Vi C [.int (nI k)] 0 7 (by omega) q0 rfl (c_X7_readsNumber l D kc N adr cl S Wa Bg As tx st (nI L) (nI z) re nuv mo sh L ch z k ⟨q0, q1, q2, q3, q4, q5, q6, q7, q8⟩ (by omega) rfl rfl htx hL60 (by omega) (by omega) (by omega)) (cwV 1 C.2.2.2.2.1 gX7_reads_X7_readsNumber rfl rfl rfl (by decide +kernel) ⟨Nat.le_of_ble_eq_true rfl, Nat.le_of_ble_eq_true rfl⟩) rfl rfl (Nat.le_of_ble_eq_true rfl) (Nat.zero_le _) (Nat.zero_le _) dX7_reads_56 (fun v57 cell57 q57 => ?_)
                obtain ⟨rfl, ⟨h_58, h_59, h_60, h_61, h_62, h_63, h_64, h_65, h_66⟩⟩ := q57
                refine g_if_eq C 66 (by decide) dX7_reads_59 (fun c59 => ?_) (fun c59 => ?_)
                · -- taken at 59
                  have c59' := bI_f c59
                  refine g_iconst C 0 (by decide) dX7_reads_66 ?_
                  refine g_istore_n C [(2, .int 0), (0, .ref (adr 0)), (1, .int (nI d)), (3, .int (nI k))] (by decide) rfl dX7_reads_67 ?_
                  refine g_iinc C 3 [(3, .int (nI (k + 1))), (2, .int 0), (0, .ref (adr 0)), (1, .int (nI d))] rfl (iinc_nI k) (by decide) rfl dX7_reads_68 ?_
                  refine g_goto C 12 (by decide) dX7_reads_71 ?_
                  have hn9 : pnF L ch a (k + 1) = none := by rw [hp1]; exact if_pos (Or.inr (by rw [hbg]; exact Decidable.not_not.mp c59'))
                  have hxe : (0 : Int32) = bI (pnF L ch a (k + 1)).isSome := by rw [hn9]; rfl
                  have hqe : ∀ z1 : Nat, pnF L ch a (k + 1) = some z1 → z1 = (z + numC L ch z) ∧ ∀ j : Nat, j < k + 1 → (upd nuv k (numV L ch z (numC L ch z))) j = nvF L ch a j := fun z1 h1 => by rw [hn9] at h1; cases h1
                  refine g_sub [2, 3, 1, 0] rfl ?_
                  exact ih (k + 1) _ _ _ _ (by omega) (by omega) h_58 h_59 h_60 h_61 h_62 h_63 h_64 h_65 h_66 hxe hqe (by first | omega | (have := numC_le L ch z; omega) | (have := numC_le L ch (z + 1); omega))
                · -- not taken at 59
                  have c59' := bI_t c59
                  refine g_iconst C 1 (by decide) dX7_reads_62 ?_
                  refine g_goto C 67 (by decide) dX7_reads_63 ?_
                  refine g_istore_n C [(2, .int 1), (0, .ref (adr 0)), (1, .int (nI d)), (3, .int (nI k))] (by decide) rfl dX7_reads_67 ?_
                  refine g_iinc C 3 [(3, .int (nI (k + 1))), (2, .int 1), (0, .ref (adr 0)), (1, .int (nI d))] rfl (iinc_nI k) (by decide) rfl dX7_reads_68 ?_
                  refine g_goto C 12 (by decide) dX7_reads_71 ?_
                  have hn9 : pnF L ch a (k + 1) = some (nbg k z + numC L ch (nbg k z)) := by rw [hp1]; exact if_neg (fun h => h.elim hcm (fun h => c59' (by rw [← hbg]; exact h)))
                  have hxe : (1 : Int32) = bI (pnF L ch a (k + 1)).isSome := by rw [hn9]; rfl
                  have hqe : ∀ z1 : Nat, pnF L ch a (k + 1) = some z1 → z1 = (z + numC L ch z) ∧ ∀ j : Nat, j < k + 1 → (upd nuv k (numV L ch z (numC L ch z))) j = nvF L ch a j := by
                    intro z1 h1
                    rw [hn9] at h1; cases h1
                    refine ⟨by rw [hbg], fun j hj => ?_⟩
                    by_cases e : j = k
                    · subst e; rw [upd_s, nvF_s hz, hbg]
                    · rw [upd_n e]; exact hnu j (by omega)
                  refine g_sub [2, 3, 1, 0] rfl ?_
                  exact ih (k + 1) _ _ _ _ (by omega) (by omega) h_58 h_59 h_60 h_61 h_62 h_63 h_64 h_65 h_66 hxe hqe (by first | omega | (have := numC_le L ch z; omega) | (have := numC_le L ch (z + 1); omega))
            · -- not taken at 22
              have c22' := i_nle c22
              have hk0 : ¬ k = 0 := by omega
              have hbg : nbg k z = z + 1 := if_neg hk0
              refine g_aload_n C 0 rfl dX7_reads_25 ?_
              refine g_Vi C [] 0 7 (by omega) q0 rfl (c_X7_sign l D kc N adr cl S Wa Bg As tx st (nI L) (nI z) re nuv mo sh L ch z  ⟨q0, q1, q2, q3, q4, q5, q6, q7, q8⟩ (by omega) rfl rfl htx hL60 (by omega)) (cwV 0 C.2.2.2.2.1 gX7_reads_X7_sign rfl rfl rfl (by decide +kernel) ⟨Nat.le_of_ble_eq_true rfl, Nat.le_of_ble_eq_true rfl⟩) rfl rfl (Nat.le_of_ble_eq_true rfl) (Nat.zero_le _) (Nat.zero_le _) dX7_reads_26 (fun v67 cell67 q67 => ?_)
              obtain ⟨rfl, rfl⟩ := q67
              refine g_bipush C 44 (by decide) dX7_reads_29 ?_
              refine g_icmp_ne C 38 (by decide) dX7_reads_31 (fun c31 => ?_) (fun c31 => ?_)
              · -- taken at 31
                have c31' := i_ne c31
                refine g_iconst C 0 (by decide) dX7_reads_38 ?_
                refine g_istore_n C [(2, .int 0), (0, .ref (adr 0)), (1, .int (nI d)), (3, .int (nI k))] (by decide) rfl dX7_reads_39 ?_
                refine g_aload_n C 1 rfl dX7_reads_40 ?_
                refine g_dup C rfl dX7_reads_41 ?_
                refine g_get C 0 7 7 (by omega) q0 rfl in7 (by decide) f142 (fun _ h9 => h9) rfl dX7_reads_42 ?_
                refine g_iconst C 1 (by decide) dX7_reads_45 ?_
                refine g_iadd C dX7_reads_46 ?_
                refine g_eqst (st1 := ([.int (nI (z + 1)), .ref (adr 0)] : List Value)) (congrArg (fun z0 : Int32 => (([.int z0, .ref (adr 0)] : List Value))) (mI_add z 1)) ?_
                refine g_put C 0 7 7 (by omega) q0 rfl in7 tyX7 tyX7_ok nmX7 (by decide) f142 (fun _ h9 => h9) rfl (ty := .int) (by decide +kernel) rfl rfl (Nat.le_of_ble_eq_true rfl) dX7_reads_47 ?_
                refine g_cell (fun cell68 ec68 => ?_)
                have h_69 : cell68 0 = .inr (7, [.ref (adr 1), .ref (adr 2), .ref (adr 3), .ref (adr 4), .int st, .ref (adr 5), .int (nI L), .int (nI (z + 1)), .int re, .ref (adr 6), .ref (adr 7), .ref (adr 8)]) := by rw [ec68]; exact va_up_self _ _ _
                have h_70 : cell68 1 = .inl (kc 0, 90, .inl S) := by rw [ec68, va_up_ne _ _ (by omega)]; exact q1
                have h_71 : cell68 2 = .inl (kc 0, 360, .inl Wa) := by rw [ec68, va_up_ne _ _ (by omega)]; exact q2
                have h_72 : cell68 3 = .inl (kc 0, 90, .inl Bg) := by rw [ec68, va_up_ne _ _ (by omega)]; exact q3
                have h_73 : cell68 4 = .inl (kc 0, 90, .inl As) := by rw [ec68, va_up_ne _ _ (by omega)]; exact q4
                have h_74 : cell68 5 = .inl (kc 1, 60, .inl tx) := by rw [ec68, va_up_ne _ _ (by omega)]; exact q5
                have h_75 : cell68 6 = .inl (kc 0, 3, .inl nuv) := by rw [ec68, va_up_ne _ _ (by omega)]; exact q6
                have h_76 : cell68 7 = .inl (kc 0, 40, .inl mo) := by rw [ec68, va_up_ne _ _ (by omega)]; exact q7
                have h_77 : cell68 8 = .inl (kc 0, 6, .inl sh) := by rw [ec68, va_up_ne _ _ (by omega)]; exact q8
                refine g_iload_n C 0 rfl dX7_reads_50 ?_
                refine g_if_eq C 66 (by decide) dX7_reads_51 (fun c51 => ?_) (fun c51 => ?_)
                · -- taken at 51
                  have c51' := i_eq c51
                  
                  refine g_iconst C 0 (by decide) dX7_reads_66 ?_
                  refine g_istore_n C [(2, .int 0), (0, .ref (adr 0)), (1, .int (nI d)), (3, .int (nI k))] (by decide) rfl dX7_reads_67 ?_
                  refine g_iinc C 3 [(3, .int (nI (k + 1))), (2, .int 0), (0, .ref (adr 0)), (1, .int (nI d))] rfl (iinc_nI k) (by decide) rfl dX7_reads_68 ?_
                  refine g_goto C 12 (by decide) dX7_reads_71 ?_
                  have hn9 : pnF L ch a (k + 1) = none := by rw [hp1]; exact if_pos (Or.inl ⟨hk0, fun h => c31 ((sg_44 (by decide) (by decide)).mpr h)⟩)
                  have hxe : (0 : Int32) = bI (pnF L ch a (k + 1)).isSome := by rw [hn9]; rfl
                  have hqe : ∀ z1 : Nat, pnF L ch a (k + 1) = some z1 → z1 = (z + 1) ∧ ∀ j : Nat, j < k + 1 → nuv j = nvF L ch a j := fun z1 h1 => by rw [hn9] at h1; cases h1
                  refine g_sub [2, 3, 1, 0] rfl ?_
                  exact ih (k + 1) _ _ _ _ (by omega) (by omega) h_69 h_70 h_71 h_72 h_73 h_74 h_75 h_76 h_77 hxe hqe (by first | omega | (have := numC_le L ch z; omega) | (have := numC_le L ch (z + 1); omega))
                · -- not taken at 51
                  have c51' := i_ne c51
                  exact absurd c51 (by decide)
              · -- not taken at 31
                have c31' := i_eq c31
                refine g_iconst C 1 (by decide) dX7_reads_34 ?_
                refine g_goto C 39 (by decide) dX7_reads_35 ?_
                refine g_istore_n C [(2, .int 1), (0, .ref (adr 0)), (1, .int (nI d)), (3, .int (nI k))] (by decide) rfl dX7_reads_39 ?_
                refine g_aload_n C 1 rfl dX7_reads_40 ?_
                refine g_dup C rfl dX7_reads_41 ?_
                refine g_get C 0 7 7 (by omega) q0 rfl in7 (by decide) f142 (fun _ h9 => h9) rfl dX7_reads_42 ?_
                refine g_iconst C 1 (by decide) dX7_reads_45 ?_
                refine g_iadd C dX7_reads_46 ?_
                refine g_eqst (st1 := ([.int (nI (z + 1)), .ref (adr 0)] : List Value)) (congrArg (fun z0 : Int32 => (([.int z0, .ref (adr 0)] : List Value))) (mI_add z 1)) ?_
                refine g_put C 0 7 7 (by omega) q0 rfl in7 tyX7 tyX7_ok nmX7 (by decide) f142 (fun _ h9 => h9) rfl (ty := .int) (by decide +kernel) rfl rfl (Nat.le_of_ble_eq_true rfl) dX7_reads_47 ?_
                refine g_cell (fun cell79 ec79 => ?_)
                have h_80 : cell79 0 = .inr (7, [.ref (adr 1), .ref (adr 2), .ref (adr 3), .ref (adr 4), .int st, .ref (adr 5), .int (nI L), .int (nI (z + 1)), .int re, .ref (adr 6), .ref (adr 7), .ref (adr 8)]) := by rw [ec79]; exact va_up_self _ _ _
                have h_81 : cell79 1 = .inl (kc 0, 90, .inl S) := by rw [ec79, va_up_ne _ _ (by omega)]; exact q1
                have h_82 : cell79 2 = .inl (kc 0, 360, .inl Wa) := by rw [ec79, va_up_ne _ _ (by omega)]; exact q2
                have h_83 : cell79 3 = .inl (kc 0, 90, .inl Bg) := by rw [ec79, va_up_ne _ _ (by omega)]; exact q3
                have h_84 : cell79 4 = .inl (kc 0, 90, .inl As) := by rw [ec79, va_up_ne _ _ (by omega)]; exact q4
                have h_85 : cell79 5 = .inl (kc 1, 60, .inl tx) := by rw [ec79, va_up_ne _ _ (by omega)]; exact q5
                have h_86 : cell79 6 = .inl (kc 0, 3, .inl nuv) := by rw [ec79, va_up_ne _ _ (by omega)]; exact q6
                have h_87 : cell79 7 = .inl (kc 0, 40, .inl mo) := by rw [ec79, va_up_ne _ _ (by omega)]; exact q7
                have h_88 : cell79 8 = .inl (kc 0, 6, .inl sh) := by rw [ec79, va_up_ne _ _ (by omega)]; exact q8
                refine g_iload_n C 0 rfl dX7_reads_50 ?_
                refine g_if_eq C 66 (by decide) dX7_reads_51 (fun c51 => ?_) (fun c51 => ?_)
                · -- taken at 51
                  have c51' := i_eq c51
                  exact absurd c51 (by decide)
                · -- not taken at 51
                  have c51' := i_ne c51
                  refine g_aload_n C 1 rfl dX7_reads_54 ?_
                  refine g_iload_n C 3 rfl dX7_reads_55 ?_
                  refine g_Vi C [.int (nI k)] 0 7 (by omega) h_80 rfl (c_X7_readsNumber l D kc N adr cell79 S Wa Bg As tx st (nI L) (nI (z + 1)) re nuv mo sh L ch (z + 1) k ⟨h_80, h_81, h_82, h_83, h_84, h_85, h_86, h_87, h_88⟩ (by omega) rfl rfl htx hL60 (by omega) (by omega) (by omega)) (cwV 1 C.2.2.2.2.1 gX7_reads_X7_readsNumber rfl rfl rfl (by decide +kernel) ⟨Nat.le_of_ble_eq_true rfl, Nat.le_of_ble_eq_true rfl⟩) rfl rfl (Nat.le_of_ble_eq_true rfl) (Nat.zero_le _) (Nat.zero_le _) dX7_reads_56 (fun v90 cell90 q90 => ?_)
                  obtain ⟨rfl, ⟨h_91, h_92, h_93, h_94, h_95, h_96, h_97, h_98, h_99⟩⟩ := q90
                  refine g_if_eq C 66 (by decide) dX7_reads_59 (fun c59 => ?_) (fun c59 => ?_)
                  · -- taken at 59
                    have c59' := bI_f c59
                    refine g_iconst C 0 (by decide) dX7_reads_66 ?_
                    refine g_istore_n C [(2, .int 0), (0, .ref (adr 0)), (1, .int (nI d)), (3, .int (nI k))] (by decide) rfl dX7_reads_67 ?_
                    refine g_iinc C 3 [(3, .int (nI (k + 1))), (2, .int 0), (0, .ref (adr 0)), (1, .int (nI d))] rfl (iinc_nI k) (by decide) rfl dX7_reads_68 ?_
                    refine g_goto C 12 (by decide) dX7_reads_71 ?_
                    have hcm : ¬ (¬ k = 0 ∧ ¬ chF L ch z = 44) := fun h => h.2 ((sg_44 (by decide) (by decide)).mp c31)
                    have hn9 : pnF L ch a (k + 1) = none := by rw [hp1]; exact if_pos (Or.inr (by rw [hbg]; exact Decidable.not_not.mp c59'))
                    have hxe : (0 : Int32) = bI (pnF L ch a (k + 1)).isSome := by rw [hn9]; rfl
                    have hqe : ∀ z1 : Nat, pnF L ch a (k + 1) = some z1 → z1 = ((z + 1) + numC L ch (z + 1)) ∧ ∀ j : Nat, j < k + 1 → (upd nuv k (numV L ch (z + 1) (numC L ch (z + 1)))) j = nvF L ch a j := fun z1 h1 => by rw [hn9] at h1; cases h1
                    refine g_sub [2, 3, 1, 0] rfl ?_
                    exact ih (k + 1) _ _ _ _ (by omega) (by omega) h_91 h_92 h_93 h_94 h_95 h_96 h_97 h_98 h_99 hxe hqe (by first | omega | (have := numC_le L ch z; omega) | (have := numC_le L ch (z + 1); omega))
                  · -- not taken at 59
                    have c59' := bI_t c59
                    refine g_iconst C 1 (by decide) dX7_reads_62 ?_
                    refine g_goto C 67 (by decide) dX7_reads_63 ?_
                    refine g_istore_n C [(2, .int 1), (0, .ref (adr 0)), (1, .int (nI d)), (3, .int (nI k))] (by decide) rfl dX7_reads_67 ?_
                    refine g_iinc C 3 [(3, .int (nI (k + 1))), (2, .int 1), (0, .ref (adr 0)), (1, .int (nI d))] rfl (iinc_nI k) (by decide) rfl dX7_reads_68 ?_
                    refine g_goto C 12 (by decide) dX7_reads_71 ?_
                    have hcm : ¬ (¬ k = 0 ∧ ¬ chF L ch z = 44) := fun h => h.2 ((sg_44 (by decide) (by decide)).mp c31)
                    have hn9 : pnF L ch a (k + 1) = some (nbg k z + numC L ch (nbg k z)) := by rw [hp1]; exact if_neg (fun h => h.elim hcm (fun h => c59' (by rw [← hbg]; exact h)))
                    have hxe : (1 : Int32) = bI (pnF L ch a (k + 1)).isSome := by rw [hn9]; rfl
                    have hqe : ∀ z1 : Nat, pnF L ch a (k + 1) = some z1 → z1 = ((z + 1) + numC L ch (z + 1)) ∧ ∀ j : Nat, j < k + 1 → (upd nuv k (numV L ch (z + 1) (numC L ch (z + 1)))) j = nvF L ch a j := by
                      intro z1 h1
                      rw [hn9] at h1; cases h1
                      refine ⟨by rw [hbg], fun j hj => ?_⟩
                      by_cases e : j = k
                      · subst e; rw [upd_s, nvF_s hz, hbg]
                      · rw [upd_n e]; exact hnu j (by omega)
                    refine g_sub [2, 3, 1, 0] rfl ?_
                    exact ih (k + 1) _ _ _ _ (by omega) (by omega) h_91 h_92 h_93 h_94 h_95 h_96 h_97 h_98 h_99 hxe hqe (by first | omega | (have := numC_le L ch z; omega) | (have := numC_le L ch (z + 1); omega))
    refine g_sub [2, 3, 1, 0] rfl ?_
    exact L12 (d + 1) 0 _ _ _ _ (by omega) (by omega) m0 m1 m2 m3 m4 m5 m6 m7 m8 rfl (fun z h => by cases h; exact ⟨rfl, fun j hj => absurd hj (Nat.not_lt_zero j)⟩) (by omega)
