set_option maxRecDepth 100000 in
set_option maxHeartbeats 4000000 in
theorem c_X7_in (l : Launch) (D : va_G) (kc : Nat → ClassId) (N : Nat) (adr : Nat → Nat) (cell : Nat → va_E) (v lo hi : Int32)  : MI l yX7_in wsX7_in ({ frames := 0, cells := 0, slots := 0, locals := 0 }) D kc N adr cell [.int v, .int lo, .int hi] (fun (w : Int32) (cell1 : Nat → va_E) => bI (decide (lo.toInt ≤ v.toInt ∧ v.toInt ≤ hi.toInt)) = w ∧ cell = cell1) := by
  refine met_i (cc := cX7_in) (maxL := 3) (ret := (some .boolean)) (by decide) rfl (Nat.le_of_ble_eq_true rfl) (lv := [(0, .int v), (1, .int lo), (2, .int hi)]) rfl ?_
  intro Pg Ev Sv Mi args below Me Cd Ar C hr hlk hnm
  have litm1 : ((-1) : Int32).toInt = -1 := rfl
  have lit0 : (0 : Int32).toInt = 0 := rfl
  have lit1 : (1 : Int32).toInt = 1 := rfl
  refine g_iload_n C 0 rfl dX7_in_0 ?_
  refine g_iload_n C 1 rfl dX7_in_1 ?_
  refine g_icmp_lt C 14 (by decide) dX7_in_2 (fun c2 => ?_) (fun c2 => ?_)
  · -- taken at 2
    have c2' := i_lt c2
    refine g_iconst C 0 (by decide) dX7_in_14 ?_
    refine g_iret C hr rfl hlk dX7_in_15 ?_
    exact ⟨by first | rfl | exact bI_1 (by omega) | exact bI_0 (by omega) | exact if_pos (by omega) | exact if_neg (by omega), rfl⟩
  · -- not taken at 2
    have c2' := i_nlt c2
    refine g_iload_n C 0 rfl dX7_in_5 ?_
    refine g_iload_n C 2 rfl dX7_in_6 ?_
    refine g_icmp_gt C 14 (by decide) dX7_in_7 (fun c7 => ?_) (fun c7 => ?_)
    · -- taken at 7
      have c7' := i_lt c7
      refine g_iconst C 0 (by decide) dX7_in_14 ?_
      refine g_iret C hr rfl hlk dX7_in_15 ?_
      exact ⟨by first | rfl | exact bI_1 (by omega) | exact bI_0 (by omega) | exact if_pos (by omega) | exact if_neg (by omega), rfl⟩
    · -- not taken at 7
      have c7' := i_nlt c7
      refine g_iconst C 1 (by decide) dX7_in_10 ?_
      refine g_goto C 15 (by decide) dX7_in_11 ?_
      refine g_iret C hr rfl hlk dX7_in_15 ?_
      exact ⟨by first | rfl | exact bI_1 (by omega) | exact bI_0 (by omega) | exact if_pos (by omega) | exact if_neg (by omega), rfl⟩
set_option maxRecDepth 100000 in
set_option maxHeartbeats 4000000 in
theorem c_X7_orNone (l : Launch) (D : va_G) (kc : Nat → ClassId) (N : Nat) (adr : Nat → Nat) (cell : Nat → va_E) (v : Int32)  : MI l yX7_orNone wsX7_orNone ({ frames := 0, cells := 0, slots := 0, locals := 0 }) D kc N adr cell [.int v] (fun (w : Int32) (cell1 : Nat → va_E) => (if v.toInt < 0 then -1000004 else v) = w ∧ cell = cell1) := by
  refine met_i (cc := cX7_orNone) (maxL := 1) (ret := (some .int)) (by decide) rfl (Nat.le_of_ble_eq_true rfl) (lv := [(0, .int v)]) rfl ?_
  intro Pg Ev Sv Mi args below Me Cd Ar C hr hlk hnm
  have k100 := C.2.2.2.2.1 (.constant RX7 100 (-1000004)) (by decide +kernel)
  have litm1000004 : ((-1000004) : Int32).toInt = -1000004 := rfl
  have litm1 : ((-1) : Int32).toInt = -1 := rfl
  have lit0 : (0 : Int32).toInt = 0 := rfl
  have lit1 : (1 : Int32).toInt = 1 := rfl
  refine g_iload_n C 0 rfl dX7_orNone_0 ?_
  refine g_if_ge C 9 (by decide) dX7_orNone_1 (fun c1 => ?_) (fun c1 => ?_)
  · -- taken at 1
    have c1' := i_le c1
    refine g_iload_n C 0 rfl dX7_orNone_9 ?_
    refine g_iret C hr rfl hlk dX7_orNone_10 ?_
    exact ⟨by first | rfl | exact bI_1 (by omega) | exact bI_0 (by omega) | exact if_pos (by omega) | exact if_neg (by omega), rfl⟩
  · -- not taken at 1
    have c1' := i_nle c1
    refine g_ldc C (-1000004) k100 dX7_orNone_4 ?_
    refine g_goto C 10 (by decide) dX7_orNone_6 ?_
    refine g_iret C hr rfl hlk dX7_orNone_10 ?_
    exact ⟨by first | rfl | exact bI_1 (by omega) | exact bI_0 (by omega) | exact if_pos (by omega) | exact if_neg (by omega), rfl⟩
set_option maxRecDepth 100000 in
set_option maxHeartbeats 4000000 in
theorem c_X7_an (l : Launch) (D : va_G) (kc : Nat → ClassId) (N : Nat) (adr : Nat → Nat) (cell : Nat → va_E) (S Wa Bg As tx : Nat → Int32) (st ty at' re : Int32) (nu mo sh : Nat → Int32) (a q : Nat) (hB : MB cell adr kc S Wa Bg As st tx ty at' re nu mo sh) (hN : 9 ≤ N) (hq : 48 + 7 * a + q < 90) : MI l yX7_an wsX7_an ({ frames := 0, cells := 0, slots := 0, locals := 0 }) D kc N adr cell [.ref (adr 0), .int (nI a), .int (nI q)] (fun (v : Int32) (cell1 : Nat → va_E) => S (48 + 7 * a + q) = v ∧ cell = cell1) := by
  refine met_i (cc := cX7_an) (maxL := 3) (ret := (some .int)) (by decide) rfl (Nat.le_of_ble_eq_true rfl) (lv := [(0, .ref (adr 0)), (1, .int (nI a)), (2, .int (nI q))]) rfl ?_
  intro Pg Ev Sv Mi args below Me Cd Ar C hr hlk hnm
  have in7 : ∀ w ∈ u_ws RX7 TX7 12, w ∈ wsX7_an := by decide +kernel
  have f7 := C.2.2.2.2.1 (.fieldLink RX7 7 "WordAnchorsModel" "s" "[I") (by decide +kernel)
  have hB0 := hB
  obtain ⟨m0, m1, m2, m3, m4, m5, m6, m7, m8⟩ := hB
  have litm1 : ((-1) : Int32).toInt = -1 := rfl
  have lit0 : (0 : Int32).toInt = 0 := rfl
  have lit1 : (1 : Int32).toInt = 1 := rfl
  have lit7 : (7 : Int32).toInt = 7 := rfl
  have lit48 : (48 : Int32).toInt = 48 := rfl
  refine g_aload_n C 0 rfl dX7_an_0 ?_
  refine g_get C 0 7 0 (by omega) m0 rfl in7 (by decide) f7 (fun _ h9 => h9) rfl dX7_an_1 ?_
  refine g_bipush C 48 (by decide) dX7_an_4 ?_
  refine g_bipush C 7 (by decide) dX7_an_6 ?_
  refine g_iload_n C 1 rfl dX7_an_8 ?_
  refine g_imul C dX7_an_9 ?_
  refine g_eqst (st1 := ([.int (nI (7 * a)), .int 48, .ref (adr 1)] : List Value)) (congrArg (fun z0 : Int32 => (([.int z0, .int 48, .ref (adr 1)] : List Value))) (mI_mul 7 a)) ?_
  refine g_iadd C dX7_an_10 ?_
  refine g_eqst (st1 := ([.int (nI (48 + (7 * a))), .ref (adr 1)] : List Value)) (congrArg (fun z0 : Int32 => (([.int z0, .ref (adr 1)] : List Value))) (mI_add 48 (7 * a))) ?_
  refine g_iload_n C 2 rfl dX7_an_11 ?_
  refine g_iadd C dX7_an_12 ?_
  refine g_eqst (st1 := ([.int (nI (48 + (7 * a) + q)), .ref (adr 1)] : List Value)) (congrArg (fun z0 : Int32 => (([.int z0, .ref (adr 1)] : List Value))) (mI_add (48 + (7 * a)) q)) ?_
  refine g_iald C 1 (by omega) m1 (vp_in_nI (by omega) (by omega)) dX7_an_13 ?_
  refine g_eqst (show ([.int (S (nI (48 + (7 * a) + q)).toNatClampNeg)] : List Value) = ([.int (S (48 + (7 * a) + q))] : List Value) from by rw [nI_clamp (by omega)]) ?_
  refine g_iret C hr rfl hlk dX7_an_14 ?_
  exact ⟨by first | rfl | exact bI_1 (by omega) | exact bI_0 (by omega) | exact if_pos (by omega) | exact if_neg (by omega), rfl⟩
set_option maxRecDepth 100000 in
set_option maxHeartbeats 4000000 in
theorem c_X7_isPlace (l : Launch) (D : va_G) (kc : Nat → ClassId) (N : Nat) (adr : Nat → Nat) (cell : Nat → va_E) (S Wa Bg As tx : Nat → Int32) (st ty at' re : Int32) (nu mo sh : Nat → Int32) (σ : SD) (x : Int32) (hB : MB cell adr kc S Wa Bg As st tx ty at' re nu mo sh) (hN : 9 ≤ N) (hS : MS S σ) (hg1 : σ.1 ≤ 40) (hg2 : σ.2.1 ≤ 6) : MI l yX7_isPlace wsX7_isPlace ({ frames := 1, cells := 0, slots := 0, locals := 22 }) D kc N adr cell [.ref (adr 0), .int x] (fun (v : Int32) (cell1 : Nat → va_E) => bI (decide (0 ≤ x.toInt ∧ x.toInt < σ.1)) = v ∧ cell = cell1) := by
  refine met_i (cc := cX7_isPlace) (maxL := 2) (ret := (some .boolean)) (by decide) rfl (Nat.le_of_ble_eq_true rfl) (lv := [(0, .ref (adr 0)), (1, .int x)]) rfl ?_
  intro Pg Ev Sv Mi args below Me Cd Ar C hr hlk hnm
  have in7 : ∀ w ∈ u_ws RX7 TX7 12, w ∈ wsX7_isPlace := by decide +kernel
  have f7 := C.2.2.2.2.1 (.fieldLink RX7 7 "WordAnchorsModel" "s" "[I") (by decide +kernel)
  have hB0 := hB
  obtain ⟨m0, m1, m2, m3, m4, m5, m6, m7, m8⟩ := hB
  have e0 := hS.1
  have e1 := hS.2.1
  have hG : σ.1 ≤ 40 ∧ σ.2.1 ≤ 6 ∧ True := ⟨hg1, hg2, trivial⟩
  have litm1 : ((-1) : Int32).toInt = -1 := rfl
  have lit0 : (0 : Int32).toInt = 0 := rfl
  have lit1 : (1 : Int32).toInt = 1 := rfl
  have tn___1 : (nI σ.1).toInt = ((σ.1 : Nat) : Int) := nI_toInt (by omega)
  refine g_iload_n C 1 rfl dX7_isPlace_0 ?_
  refine g_iconst C 0 (by decide) dX7_isPlace_1 ?_
  refine g_aload_n C 0 rfl dX7_isPlace_2 ?_
  refine g_get C 0 7 0 (by omega) m0 rfl in7 (by decide) f7 (fun _ h9 => h9) rfl dX7_isPlace_3 ?_
  refine g_iconst C 0 (by decide) dX7_isPlace_6 ?_
  refine g_iald C 1 (by omega) m1 (vp_in_iff.mpr (by omega)) dX7_isPlace_7 ?_
  refine g_eqst (st1 := ([.int (S 0), .int 0, .int x] : List Value)) rfl ?_
  refine g_eqst (show ([.int (S 0), .int 0, .int x] : List Value) = ([.int (nI σ.1), .int 0, .int x] : List Value) from by rw [e0]) ?_
  refine g_iconst C 1 (by decide) dX7_isPlace_8 ?_
  refine g_isub C dX7_isPlace_9 ?_
  have ta_2 : ((nI σ.1) - 1).toInt = (nI σ.1).toInt - (1 : Int32).toInt := t_sub (by omega) (by omega)
  refine g_Si C [.int x, .int 0, .int ((nI σ.1) - 1)] (c_X7_in l D kc N adr cell x 0 ((nI σ.1) - 1)) (va_cwS 3 C.2.2.2.2.1 gX7_isPlace_X7_in rfl rfl rfl (by decide +kernel) ⟨Nat.le_of_ble_eq_true rfl, Nat.le_of_ble_eq_true rfl⟩) rfl rfl (Nat.le_of_ble_eq_true rfl) (Nat.zero_le _) (Nat.zero_le _) dX7_isPlace_10 (fun v3 cell3 q3 => ?_)
  obtain ⟨rfl, rfl⟩ := q3
  refine g_iret C hr (bI_nar _) hlk dX7_isPlace_13 ?_
  exact ⟨congrArg bI (decide_eq_decide.mpr ⟨fun h => ⟨by omega, by omega⟩, fun h => ⟨by omega, by omega⟩⟩), rfl⟩
set_option maxRecDepth 100000 in
set_option maxHeartbeats 4000000 in
theorem c_X7_isAnchor (l : Launch) (D : va_G) (kc : Nat → ClassId) (N : Nat) (adr : Nat → Nat) (cell : Nat → va_E) (S Wa Bg As tx : Nat → Int32) (st ty at' re : Int32) (nu mo sh : Nat → Int32) (σ : SD) (x : Int32) (hB : MB cell adr kc S Wa Bg As st tx ty at' re nu mo sh) (hN : 9 ≤ N) (hS : MS S σ) (hg1 : σ.1 ≤ 40) (hg2 : σ.2.1 ≤ 6) : MI l yX7_isAnchor wsX7_isAnchor ({ frames := 1, cells := 0, slots := 0, locals := 22 }) D kc N adr cell [.ref (adr 0), .int x] (fun (v : Int32) (cell1 : Nat → va_E) => bI (decide (0 ≤ x.toInt ∧ x.toInt < σ.2.1)) = v ∧ cell = cell1) := by
  refine met_i (cc := cX7_isAnchor) (maxL := 2) (ret := (some .boolean)) (by decide) rfl (Nat.le_of_ble_eq_true rfl) (lv := [(0, .ref (adr 0)), (1, .int x)]) rfl ?_
  intro Pg Ev Sv Mi args below Me Cd Ar C hr hlk hnm
  have in7 : ∀ w ∈ u_ws RX7 TX7 12, w ∈ wsX7_isAnchor := by decide +kernel
  have f7 := C.2.2.2.2.1 (.fieldLink RX7 7 "WordAnchorsModel" "s" "[I") (by decide +kernel)
  have hB0 := hB
  obtain ⟨m0, m1, m2, m3, m4, m5, m6, m7, m8⟩ := hB
  have e0 := hS.1
  have e1 := hS.2.1
  have hG : σ.1 ≤ 40 ∧ σ.2.1 ≤ 6 ∧ True := ⟨hg1, hg2, trivial⟩
  have litm1 : ((-1) : Int32).toInt = -1 := rfl
  have lit0 : (0 : Int32).toInt = 0 := rfl
  have lit1 : (1 : Int32).toInt = 1 := rfl
  have tn___2_1 : (nI σ.2.1).toInt = ((σ.2.1 : Nat) : Int) := nI_toInt (by omega)
  refine g_iload_n C 1 rfl dX7_isAnchor_0 ?_
  refine g_iconst C 0 (by decide) dX7_isAnchor_1 ?_
  refine g_aload_n C 0 rfl dX7_isAnchor_2 ?_
  refine g_get C 0 7 0 (by omega) m0 rfl in7 (by decide) f7 (fun _ h9 => h9) rfl dX7_isAnchor_3 ?_
  refine g_iconst C 1 (by decide) dX7_isAnchor_6 ?_
  refine g_iald C 1 (by omega) m1 (vp_in_iff.mpr (by omega)) dX7_isAnchor_7 ?_
  refine g_eqst (st1 := ([.int (S 1), .int 0, .int x] : List Value)) rfl ?_
  refine g_eqst (show ([.int (S 1), .int 0, .int x] : List Value) = ([.int (nI σ.2.1), .int 0, .int x] : List Value) from by rw [e1]) ?_
  refine g_iconst C 1 (by decide) dX7_isAnchor_8 ?_
  refine g_isub C dX7_isAnchor_9 ?_
  have ta_2 : ((nI σ.2.1) - 1).toInt = (nI σ.2.1).toInt - (1 : Int32).toInt := t_sub (by omega) (by omega)
  refine g_Si C [.int x, .int 0, .int ((nI σ.2.1) - 1)] (c_X7_in l D kc N adr cell x 0 ((nI σ.2.1) - 1)) (va_cwS 3 C.2.2.2.2.1 gX7_isAnchor_X7_in rfl rfl rfl (by decide +kernel) ⟨Nat.le_of_ble_eq_true rfl, Nat.le_of_ble_eq_true rfl⟩) rfl rfl (Nat.le_of_ble_eq_true rfl) (Nat.zero_le _) (Nat.zero_le _) dX7_isAnchor_10 (fun v3 cell3 q3 => ?_)
  obtain ⟨rfl, rfl⟩ := q3
  refine g_iret C hr (bI_nar _) hlk dX7_isAnchor_13 ?_
  exact ⟨congrArg bI (decide_eq_decide.mpr ⟨fun h => ⟨by omega, by omega⟩, fun h => ⟨by omega, by omega⟩⟩), rfl⟩
set_option maxRecDepth 100000 in
set_option maxHeartbeats 4000000 in
theorem c_X7_keeps (l : Launch) (D : va_G) (kc : Nat → ClassId) (N : Nat) (adr : Nat → Nat) (cell : Nat → va_E) (S Wa Bg As tx : Nat → Int32) (st ty at' re : Int32) (nu mo sh : Nat → Int32)  (hB : MB cell adr kc S Wa Bg As st tx ty at' re nu mo sh) (hN : 9 ≤ N) : MV l yX7_keeps wsX7_keeps ({ frames := 0, cells := 0, slots := 0, locals := 0 }) D kc N adr cell [.ref (adr 0)] (fun (cell1 : Nat → va_E) => MB cell1 adr kc S Wa (fill S Bg 90) As st tx ty at' re nu mo sh) := by
  refine met_v (cc := cX7_keeps) (maxL := 2) (ret := none) (by decide) rfl (Nat.le_of_ble_eq_true rfl) (lv := [(0, .ref (adr 0))]) rfl ?_
  intro Pg Ev Sv Mi args below Me Cd Ar C hr hlk hnm
  have in7 : ∀ w ∈ u_ws RX7 TX7 12, w ∈ wsX7_keeps := by decide +kernel
  have f16 := C.2.2.2.2.1 (.fieldLink RX7 16 "WordAnchorsModel" "begun" "[I") (by decide +kernel)
  have f7 := C.2.2.2.2.1 (.fieldLink RX7 7 "WordAnchorsModel" "s" "[I") (by decide +kernel)
  have hB0 := hB
  obtain ⟨m0, m1, m2, m3, m4, m5, m6, m7, m8⟩ := hB
  have litm1 : ((-1) : Int32).toInt = -1 := rfl
  have lit0 : (0 : Int32).toInt = 0 := rfl
  have lit1 : (1 : Int32).toInt = 1 := rfl
  have lit90 : (90 : Int32).toInt = 90 := rfl
  refine g_iconst C 0 (by decide) dX7_keeps_0 ?_
  refine g_istore_n C [(1, .int 0), (0, .ref (adr 0))] (by decide) rfl dX7_keeps_1 ?_
  have L2 : ∀ (fu i : Nat) (cl : Nat → va_E) , i ≤ 90 → 90 < i + fu → (q0 : cl 0 = .inr (7, [.ref (adr 1), .ref (adr 2), .ref (adr 3), .ref (adr 4), .int st, .ref (adr 5), .int ty, .int at', .int re, .ref (adr 6), .ref (adr 7), .ref (adr 8)])) → (q1 : cl 1 = .inl (kc 0, 90, .inl S)) → (q2 : cl 2 = .inl (kc 0, 360, .inl Wa)) → (q3 : cl 3 = .inl (kc 0, 90, .inl (fill S Bg i))) → (q4 : cl 4 = .inl (kc 0, 90, .inl As)) → (q5 : cl 5 = .inl (kc 1, 60, .inl tx)) → (q6 : cl 6 = .inl (kc 0, 3, .inl nu)) → (q7 : cl 7 = .inl (kc 0, 40, .inl mo)) → (q8 : cl 8 = .inl (kc 0, 6, .inl sh)) → G Pg l Ev (headSpec wsX7_keeps { frames := 0, cells := 0, slots := 0, locals := 0 }).room Sv Mi args below Me Cd D N adr Ar Sv.heap 2 0 0 (MQ below (va_Qv (fun (cell1 : Nat → va_E) => MB cell1 adr kc S Wa (fill S Bg 90) As st tx ty at' re nu mo sh) (fun (cell1 : Nat → va_E) (t : State) => va_P D vwCl (wld N adr cell1) t.heap) Ar) args Sv 0 0 Ar) cl 2 [(0, .ref (adr 0)), (1, .int (nI i))] ([] : List Value) := by
    intro fu
    induction fu with
    | zero => intro i cl  hle hfu; exact absurd hfu (by omega)
    | succ fu ih =>
      intro i cl  hle2 hfu2 q0 q1 q2 q3 q4 q5 q6 q7 q8 
      have tn_i : (nI i).toInt = ((i : Nat) : Int) := nI_toInt (by omega)
      refine g_iload_n C 1 rfl dX7_keeps_2 ?_
      refine g_bipush C 90 (by decide) dX7_keeps_3 ?_
      refine g_icmp_ge C 26 (by decide) dX7_keeps_5 (fun c5 => ?_) (fun c5 => ?_)
      · -- taken at 5
        have c5' := i_le c5
        obtain rfl : 90 = i := by omega
        refine g_vret C hr hlk dX7_keeps_26 ?_
        exact ⟨q0, q1, q2, q3, q4, q5, q6, q7, q8⟩
      · -- not taken at 5
        have c5' := i_nle c5
        refine g_aload_n C 0 rfl dX7_keeps_8 ?_
        refine g_get C 0 7 2 (by omega) q0 rfl in7 (by decide) f16 (fun _ h9 => h9) rfl dX7_keeps_9 ?_
        refine g_iload_n C 1 rfl dX7_keeps_12 ?_
        refine g_aload_n C 0 rfl dX7_keeps_13 ?_
        refine g_get C 0 7 0 (by omega) q0 rfl in7 (by decide) f7 (fun _ h9 => h9) rfl dX7_keeps_14 ?_
        refine g_iload_n C 1 rfl dX7_keeps_17 ?_
        refine g_iald C 1 (by omega) q1 (vp_in_nI (by omega) (by omega)) dX7_keeps_18 ?_
        refine g_eqst (show ([.int (S (nI i).toNatClampNeg), .int (nI i), .ref (adr 3)] : List Value) = ([.int (S i), .int (nI i), .ref (adr 3)] : List Value) from by rw [nI_clamp (by omega)]) ?_
        refine g_iast C 3 (by omega) q3 (vp_in_nI (by omega) (by omega)) dX7_keeps_19 ?_
        refine g_cell (fun cell1 ec1 => ?_)
        have h_2 : cell1 0 = .inr (7, [.ref (adr 1), .ref (adr 2), .ref (adr 3), .ref (adr 4), .int st, .ref (adr 5), .int ty, .int at', .int re, .ref (adr 6), .ref (adr 7), .ref (adr 8)]) := by rw [ec1, va_up_ne _ _ (by omega)]; exact q0
        have h_3 : cell1 1 = .inl (kc 0, 90, .inl S) := by rw [ec1, va_up_ne _ _ (by omega)]; exact q1
        have h_4 : cell1 2 = .inl (kc 0, 360, .inl Wa) := by rw [ec1, va_up_ne _ _ (by omega)]; exact q2
        have h_5 : cell1 3 = .inl (kc 0, 90, .inl (upd (fill S Bg i) (nI i).toNatClampNeg (S i))) := by rw [ec1]; exact va_up_self _ _ _
        have h_6 : cell1 4 = .inl (kc 0, 90, .inl As) := by rw [ec1, va_up_ne _ _ (by omega)]; exact q4
        have h_7 : cell1 5 = .inl (kc 1, 60, .inl tx) := by rw [ec1, va_up_ne _ _ (by omega)]; exact q5
        have h_8 : cell1 6 = .inl (kc 0, 3, .inl nu) := by rw [ec1, va_up_ne _ _ (by omega)]; exact q6
        have h_9 : cell1 7 = .inl (kc 0, 40, .inl mo) := by rw [ec1, va_up_ne _ _ (by omega)]; exact q7
        have h_10 : cell1 8 = .inl (kc 0, 6, .inl sh) := by rw [ec1, va_up_ne _ _ (by omega)]; exact q8
        have h_12 : cell1 3 = .inl (kc 0, 90, .inl (upd (fill S Bg i) i (S i))) := by rw [h_5, nI_clamp (by omega)]
        refine g_iinc C 1 [(1, .int (nI (i + 1))), (0, .ref (adr 0))] rfl (iinc_nI i) (by decide) rfl dX7_keeps_20 ?_
        refine g_goto C 2 (by decide) dX7_keeps_23 ?_
        refine g_sub [1, 0] rfl ?_
        have hx_13 : cell1 3 = .inl (kc 0, 90, .inl (fill S Bg (i + 1))) := h_12.trans (congrArg (fun f0 : Nat → Int32 => (.inl (kc 0, 90, .inl f0) : va_E)) (show (upd (fill S Bg i) i (S i)) = (fill S Bg (i + 1)) from by exact fill_upd rfl))
        exact ih (i + 1) _ (by omega) (by omega) h_2 h_3 h_4 hx_13 h_6 h_7 h_8 h_9 h_10 
  refine g_sub [1, 0] rfl ?_
  have hx_14 : cell 3 = .inl (kc 0, 90, .inl (fill S Bg 0)) := m3.trans (congrArg (fun f0 : Nat → Int32 => (.inl (kc 0, 90, .inl f0) : va_E)) (show Bg = (fill S Bg 0) from by exact fill_0))
  exact L2 (90 + 1) 0 _ (by omega) (by omega) m0 m1 m2 hx_14 m4 m5 m6 m7 m8 
set_option maxRecDepth 100000 in
set_option maxHeartbeats 4000000 in
theorem c_X7_lays (l : Launch) (D : va_G) (kc : Nat → ClassId) (N : Nat) (adr : Nat → Nat) (cell : Nat → va_E) (S Wa Bg As tx : Nat → Int32) (st ty at' re : Int32) (nu mo sh : Nat → Int32)  (hB : MB cell adr kc S Wa Bg As st tx ty at' re nu mo sh) (hN : 9 ≤ N) : MV l yX7_lays wsX7_lays ({ frames := 0, cells := 0, slots := 0, locals := 0 }) D kc N adr cell [.ref (adr 0)] (fun (cell1 : Nat → va_E) => MB cell1 adr kc S Wa Bg (fill S As 90) st tx ty at' re nu mo sh) := by
  refine met_v (cc := cX7_lays) (maxL := 2) (ret := none) (by decide) rfl (Nat.le_of_ble_eq_true rfl) (lv := [(0, .ref (adr 0))]) rfl ?_
  intro Pg Ev Sv Mi args below Me Cd Ar C hr hlk hnm
  have in7 : ∀ w ∈ u_ws RX7 TX7 12, w ∈ wsX7_lays := by decide +kernel
  have f19 := C.2.2.2.2.1 (.fieldLink RX7 19 "WordAnchorsModel" "aside" "[I") (by decide +kernel)
  have f7 := C.2.2.2.2.1 (.fieldLink RX7 7 "WordAnchorsModel" "s" "[I") (by decide +kernel)
  have hB0 := hB
  obtain ⟨m0, m1, m2, m3, m4, m5, m6, m7, m8⟩ := hB
  have litm1 : ((-1) : Int32).toInt = -1 := rfl
  have lit0 : (0 : Int32).toInt = 0 := rfl
  have lit1 : (1 : Int32).toInt = 1 := rfl
  have lit90 : (90 : Int32).toInt = 90 := rfl
  refine g_iconst C 0 (by decide) dX7_lays_0 ?_
  refine g_istore_n C [(1, .int 0), (0, .ref (adr 0))] (by decide) rfl dX7_lays_1 ?_
  have L2 : ∀ (fu i : Nat) (cl : Nat → va_E) , i ≤ 90 → 90 < i + fu → (q0 : cl 0 = .inr (7, [.ref (adr 1), .ref (adr 2), .ref (adr 3), .ref (adr 4), .int st, .ref (adr 5), .int ty, .int at', .int re, .ref (adr 6), .ref (adr 7), .ref (adr 8)])) → (q1 : cl 1 = .inl (kc 0, 90, .inl S)) → (q2 : cl 2 = .inl (kc 0, 360, .inl Wa)) → (q3 : cl 3 = .inl (kc 0, 90, .inl Bg)) → (q4 : cl 4 = .inl (kc 0, 90, .inl (fill S As i))) → (q5 : cl 5 = .inl (kc 1, 60, .inl tx)) → (q6 : cl 6 = .inl (kc 0, 3, .inl nu)) → (q7 : cl 7 = .inl (kc 0, 40, .inl mo)) → (q8 : cl 8 = .inl (kc 0, 6, .inl sh)) → G Pg l Ev (headSpec wsX7_lays { frames := 0, cells := 0, slots := 0, locals := 0 }).room Sv Mi args below Me Cd D N adr Ar Sv.heap 2 0 0 (MQ below (va_Qv (fun (cell1 : Nat → va_E) => MB cell1 adr kc S Wa Bg (fill S As 90) st tx ty at' re nu mo sh) (fun (cell1 : Nat → va_E) (t : State) => va_P D vwCl (wld N adr cell1) t.heap) Ar) args Sv 0 0 Ar) cl 2 [(0, .ref (adr 0)), (1, .int (nI i))] ([] : List Value) := by
    intro fu
    induction fu with
    | zero => intro i cl  hle hfu; exact absurd hfu (by omega)
    | succ fu ih =>
      intro i cl  hle2 hfu2 q0 q1 q2 q3 q4 q5 q6 q7 q8 
      have tn_i : (nI i).toInt = ((i : Nat) : Int) := nI_toInt (by omega)
      refine g_iload_n C 1 rfl dX7_lays_2 ?_
      refine g_bipush C 90 (by decide) dX7_lays_3 ?_
      refine g_icmp_ge C 26 (by decide) dX7_lays_5 (fun c5 => ?_) (fun c5 => ?_)
      · -- taken at 5
        have c5' := i_le c5
        obtain rfl : 90 = i := by omega
        refine g_vret C hr hlk dX7_lays_26 ?_
        exact ⟨q0, q1, q2, q3, q4, q5, q6, q7, q8⟩
      · -- not taken at 5
        have c5' := i_nle c5
        refine g_aload_n C 0 rfl dX7_lays_8 ?_
        refine g_get C 0 7 3 (by omega) q0 rfl in7 (by decide) f19 (fun _ h9 => h9) rfl dX7_lays_9 ?_
        refine g_iload_n C 1 rfl dX7_lays_12 ?_
        refine g_aload_n C 0 rfl dX7_lays_13 ?_
        refine g_get C 0 7 0 (by omega) q0 rfl in7 (by decide) f7 (fun _ h9 => h9) rfl dX7_lays_14 ?_
        refine g_iload_n C 1 rfl dX7_lays_17 ?_
        refine g_iald C 1 (by omega) q1 (vp_in_nI (by omega) (by omega)) dX7_lays_18 ?_
        refine g_eqst (show ([.int (S (nI i).toNatClampNeg), .int (nI i), .ref (adr 4)] : List Value) = ([.int (S i), .int (nI i), .ref (adr 4)] : List Value) from by rw [nI_clamp (by omega)]) ?_
        refine g_iast C 4 (by omega) q4 (vp_in_nI (by omega) (by omega)) dX7_lays_19 ?_
        refine g_cell (fun cell1 ec1 => ?_)
        have h_2 : cell1 0 = .inr (7, [.ref (adr 1), .ref (adr 2), .ref (adr 3), .ref (adr 4), .int st, .ref (adr 5), .int ty, .int at', .int re, .ref (adr 6), .ref (adr 7), .ref (adr 8)]) := by rw [ec1, va_up_ne _ _ (by omega)]; exact q0
        have h_3 : cell1 1 = .inl (kc 0, 90, .inl S) := by rw [ec1, va_up_ne _ _ (by omega)]; exact q1
        have h_4 : cell1 2 = .inl (kc 0, 360, .inl Wa) := by rw [ec1, va_up_ne _ _ (by omega)]; exact q2
        have h_5 : cell1 3 = .inl (kc 0, 90, .inl Bg) := by rw [ec1, va_up_ne _ _ (by omega)]; exact q3
        have h_6 : cell1 4 = .inl (kc 0, 90, .inl (upd (fill S As i) (nI i).toNatClampNeg (S i))) := by rw [ec1]; exact va_up_self _ _ _
        have h_7 : cell1 5 = .inl (kc 1, 60, .inl tx) := by rw [ec1, va_up_ne _ _ (by omega)]; exact q5
        have h_8 : cell1 6 = .inl (kc 0, 3, .inl nu) := by rw [ec1, va_up_ne _ _ (by omega)]; exact q6
        have h_9 : cell1 7 = .inl (kc 0, 40, .inl mo) := by rw [ec1, va_up_ne _ _ (by omega)]; exact q7
        have h_10 : cell1 8 = .inl (kc 0, 6, .inl sh) := by rw [ec1, va_up_ne _ _ (by omega)]; exact q8
        have h_12 : cell1 4 = .inl (kc 0, 90, .inl (upd (fill S As i) i (S i))) := by rw [h_6, nI_clamp (by omega)]
        refine g_iinc C 1 [(1, .int (nI (i + 1))), (0, .ref (adr 0))] rfl (iinc_nI i) (by decide) rfl dX7_lays_20 ?_
        refine g_goto C 2 (by decide) dX7_lays_23 ?_
        refine g_sub [1, 0] rfl ?_
        have hx_13 : cell1 4 = .inl (kc 0, 90, .inl (fill S As (i + 1))) := h_12.trans (congrArg (fun f0 : Nat → Int32 => (.inl (kc 0, 90, .inl f0) : va_E)) (show (upd (fill S As i) i (S i)) = (fill S As (i + 1)) from by exact fill_upd rfl))
        exact ih (i + 1) _ (by omega) (by omega) h_2 h_3 h_4 h_5 hx_13 h_7 h_8 h_9 h_10 
  refine g_sub [1, 0] rfl ?_
  have hx_14 : cell 4 = .inl (kc 0, 90, .inl (fill S As 0)) := m4.trans (congrArg (fun f0 : Nat → Int32 => (.inl (kc 0, 90, .inl f0) : va_E)) (show As = (fill S As 0) from by exact fill_0))
  exact L2 (90 + 1) 0 _ (by omega) (by omega) m0 m1 m2 m3 hx_14 m5 m6 m7 m8 
set_option maxRecDepth 100000 in
set_option maxHeartbeats 4000000 in
theorem c_X7_restores (l : Launch) (D : va_G) (kc : Nat → ClassId) (N : Nat) (adr : Nat → Nat) (cell : Nat → va_E) (S Wa Bg As tx : Nat → Int32) (st ty at' re : Int32) (nu mo sh : Nat → Int32)  (hB : MB cell adr kc S Wa Bg As st tx ty at' re nu mo sh) (hN : 9 ≤ N) : MV l yX7_restores wsX7_restores ({ frames := 0, cells := 0, slots := 0, locals := 0 }) D kc N adr cell [.ref (adr 0)] (fun (cell1 : Nat → va_E) => MB cell1 adr kc (fill As S 90) Wa Bg As st tx ty at' re nu mo sh) := by
  refine met_v (cc := cX7_restores) (maxL := 2) (ret := none) (by decide) rfl (Nat.le_of_ble_eq_true rfl) (lv := [(0, .ref (adr 0))]) rfl ?_
  intro Pg Ev Sv Mi args below Me Cd Ar C hr hlk hnm
  have in7 : ∀ w ∈ u_ws RX7 TX7 12, w ∈ wsX7_restores := by decide +kernel
  have f7 := C.2.2.2.2.1 (.fieldLink RX7 7 "WordAnchorsModel" "s" "[I") (by decide +kernel)
  have f19 := C.2.2.2.2.1 (.fieldLink RX7 19 "WordAnchorsModel" "aside" "[I") (by decide +kernel)
  have hB0 := hB
  obtain ⟨m0, m1, m2, m3, m4, m5, m6, m7, m8⟩ := hB
  have litm1 : ((-1) : Int32).toInt = -1 := rfl
  have lit0 : (0 : Int32).toInt = 0 := rfl
  have lit1 : (1 : Int32).toInt = 1 := rfl
  have lit90 : (90 : Int32).toInt = 90 := rfl
  refine g_iconst C 0 (by decide) dX7_restores_0 ?_
  refine g_istore_n C [(1, .int 0), (0, .ref (adr 0))] (by decide) rfl dX7_restores_1 ?_
  have L2 : ∀ (fu i : Nat) (cl : Nat → va_E) , i ≤ 90 → 90 < i + fu → (q0 : cl 0 = .inr (7, [.ref (adr 1), .ref (adr 2), .ref (adr 3), .ref (adr 4), .int st, .ref (adr 5), .int ty, .int at', .int re, .ref (adr 6), .ref (adr 7), .ref (adr 8)])) → (q1 : cl 1 = .inl (kc 0, 90, .inl (fill As S i))) → (q2 : cl 2 = .inl (kc 0, 360, .inl Wa)) → (q3 : cl 3 = .inl (kc 0, 90, .inl Bg)) → (q4 : cl 4 = .inl (kc 0, 90, .inl As)) → (q5 : cl 5 = .inl (kc 1, 60, .inl tx)) → (q6 : cl 6 = .inl (kc 0, 3, .inl nu)) → (q7 : cl 7 = .inl (kc 0, 40, .inl mo)) → (q8 : cl 8 = .inl (kc 0, 6, .inl sh)) → G Pg l Ev (headSpec wsX7_restores { frames := 0, cells := 0, slots := 0, locals := 0 }).room Sv Mi args below Me Cd D N adr Ar Sv.heap 2 0 0 (MQ below (va_Qv (fun (cell1 : Nat → va_E) => MB cell1 adr kc (fill As S 90) Wa Bg As st tx ty at' re nu mo sh) (fun (cell1 : Nat → va_E) (t : State) => va_P D vwCl (wld N adr cell1) t.heap) Ar) args Sv 0 0 Ar) cl 2 [(0, .ref (adr 0)), (1, .int (nI i))] ([] : List Value) := by
    intro fu
    induction fu with
    | zero => intro i cl  hle hfu; exact absurd hfu (by omega)
    | succ fu ih =>
      intro i cl  hle2 hfu2 q0 q1 q2 q3 q4 q5 q6 q7 q8 
      have tn_i : (nI i).toInt = ((i : Nat) : Int) := nI_toInt (by omega)
      refine g_iload_n C 1 rfl dX7_restores_2 ?_
      refine g_bipush C 90 (by decide) dX7_restores_3 ?_
      refine g_icmp_ge C 26 (by decide) dX7_restores_5 (fun c5 => ?_) (fun c5 => ?_)
      · -- taken at 5
        have c5' := i_le c5
        obtain rfl : 90 = i := by omega
        refine g_vret C hr hlk dX7_restores_26 ?_
        exact ⟨q0, q1, q2, q3, q4, q5, q6, q7, q8⟩
      · -- not taken at 5
        have c5' := i_nle c5
        refine g_aload_n C 0 rfl dX7_restores_8 ?_
        refine g_get C 0 7 0 (by omega) q0 rfl in7 (by decide) f7 (fun _ h9 => h9) rfl dX7_restores_9 ?_
        refine g_iload_n C 1 rfl dX7_restores_12 ?_
        refine g_aload_n C 0 rfl dX7_restores_13 ?_
        refine g_get C 0 7 3 (by omega) q0 rfl in7 (by decide) f19 (fun _ h9 => h9) rfl dX7_restores_14 ?_
        refine g_iload_n C 1 rfl dX7_restores_17 ?_
        refine g_iald C 4 (by omega) q4 (vp_in_nI (by omega) (by omega)) dX7_restores_18 ?_
        refine g_eqst (show ([.int (As (nI i).toNatClampNeg), .int (nI i), .ref (adr 1)] : List Value) = ([.int (As i), .int (nI i), .ref (adr 1)] : List Value) from by rw [nI_clamp (by omega)]) ?_
        refine g_iast C 1 (by omega) q1 (vp_in_nI (by omega) (by omega)) dX7_restores_19 ?_
        refine g_cell (fun cell1 ec1 => ?_)
        have h_2 : cell1 0 = .inr (7, [.ref (adr 1), .ref (adr 2), .ref (adr 3), .ref (adr 4), .int st, .ref (adr 5), .int ty, .int at', .int re, .ref (adr 6), .ref (adr 7), .ref (adr 8)]) := by rw [ec1, va_up_ne _ _ (by omega)]; exact q0
        have h_3 : cell1 1 = .inl (kc 0, 90, .inl (upd (fill As S i) (nI i).toNatClampNeg (As i))) := by rw [ec1]; exact va_up_self _ _ _
        have h_4 : cell1 2 = .inl (kc 0, 360, .inl Wa) := by rw [ec1, va_up_ne _ _ (by omega)]; exact q2
        have h_5 : cell1 3 = .inl (kc 0, 90, .inl Bg) := by rw [ec1, va_up_ne _ _ (by omega)]; exact q3
        have h_6 : cell1 4 = .inl (kc 0, 90, .inl As) := by rw [ec1, va_up_ne _ _ (by omega)]; exact q4
        have h_7 : cell1 5 = .inl (kc 1, 60, .inl tx) := by rw [ec1, va_up_ne _ _ (by omega)]; exact q5
        have h_8 : cell1 6 = .inl (kc 0, 3, .inl nu) := by rw [ec1, va_up_ne _ _ (by omega)]; exact q6
        have h_9 : cell1 7 = .inl (kc 0, 40, .inl mo) := by rw [ec1, va_up_ne _ _ (by omega)]; exact q7
        have h_10 : cell1 8 = .inl (kc 0, 6, .inl sh) := by rw [ec1, va_up_ne _ _ (by omega)]; exact q8
        have h_12 : cell1 1 = .inl (kc 0, 90, .inl (upd (fill As S i) i (As i))) := by rw [h_3, nI_clamp (by omega)]
        refine g_iinc C 1 [(1, .int (nI (i + 1))), (0, .ref (adr 0))] rfl (iinc_nI i) (by decide) rfl dX7_restores_20 ?_
        refine g_goto C 2 (by decide) dX7_restores_23 ?_
        refine g_sub [1, 0] rfl ?_
        have hx_13 : cell1 1 = .inl (kc 0, 90, .inl (fill As S (i + 1))) := h_12.trans (congrArg (fun f0 : Nat → Int32 => (.inl (kc 0, 90, .inl f0) : va_E)) (show (upd (fill As S i) i (As i)) = (fill As S (i + 1)) from by exact fill_upd rfl))
        exact ih (i + 1) _ (by omega) (by omega) h_2 hx_13 h_4 h_5 h_6 h_7 h_8 h_9 h_10 
  refine g_sub [1, 0] rfl ?_
  have hx_14 : cell 1 = .inl (kc 0, 90, .inl (fill As S 0)) := m1.trans (congrArg (fun f0 : Nat → Int32 => (.inl (kc 0, 90, .inl f0) : va_E)) (show S = (fill As S 0) from by exact fill_0))
  exact L2 (90 + 1) 0 _ (by omega) (by omega) m0 hx_14 m2 m3 m4 m5 m6 m7 m8 
set_option maxRecDepth 100000 in
set_option maxHeartbeats 4000000 in
theorem c_X7_word (l : Launch) (D : va_G) (kc : Nat → ClassId) (N : Nat) (adr : Nat → Nat) (cell : Nat → va_E) (S Wa Bg As tx : Nat → Int32) (st ty at' re : Int32) (nu mo sh : Nat → Int32) (σ : SD) (x : Int32) (hB : MB cell adr kc S Wa Bg As st tx ty at' re nu mo sh) (hN : 9 ≤ N) (hS : MS S σ) (hg1 : σ.1 ≤ 40) (hg2 : σ.2.1 ≤ 6) : MI l yX7_word wsX7_word ({ frames := 2, cells := 0, slots := 0, locals := 43 }) D kc N adr cell [.ref (adr 0), .int x] (fun (v : Int32) (cell1 : Nat → va_E) => atF σ.1 σ.2.2.2.1 x = v ∧ cell = cell1) := by
  refine met_i (cc := cX7_word) (maxL := 2) (ret := (some .int)) (by decide) rfl (Nat.le_of_ble_eq_true rfl) (lv := [(0, .ref (adr 0)), (1, .int x)]) rfl ?_
  intro Pg Ev Sv Mi args below Me Cd Ar C hr hlk hnm
  have in7 : ∀ w ∈ u_ws RX7 TX7 12, w ∈ wsX7_word := by decide +kernel
  have f7 := C.2.2.2.2.1 (.fieldLink RX7 7 "WordAnchorsModel" "s" "[I") (by decide +kernel)
  have hB0 := hB
  obtain ⟨m0, m1, m2, m3, m4, m5, m6, m7, m8⟩ := hB
  have e0 := hS.1
  have e1 := hS.2.1
  have hG : σ.1 ≤ 40 ∧ σ.2.1 ≤ 6 ∧ True := ⟨hg1, hg2, trivial⟩
  have litm1 : ((-1) : Int32).toInt = -1 := rfl
  have lit0 : (0 : Int32).toInt = 0 := rfl
  have lit1 : (1 : Int32).toInt = 1 := rfl
  have lit8 : (8 : Int32).toInt = 8 := rfl
  have tn___1 : (nI σ.1).toInt = ((σ.1 : Nat) : Int) := nI_toInt (by omega)
  refine g_aload_n C 0 rfl dX7_word_0 ?_
  refine g_iload_n C 1 rfl dX7_word_1 ?_
  refine g_Vi C [.int x] 0 7 (by omega) m0 rfl (c_X7_isPlace l D kc N adr cell S Wa Bg As tx st ty at' re nu mo sh σ x ⟨m0, m1, m2, m3, m4, m5, m6, m7, m8⟩ (by omega) hS hG.1 hG.2.1) (cwV 1 C.2.2.2.2.1 gX7_word_X7_isPlace rfl rfl rfl (by decide +kernel) ⟨Nat.le_of_ble_eq_true rfl, Nat.le_of_ble_eq_true rfl⟩) rfl rfl (Nat.le_of_ble_eq_true rfl) (Nat.zero_le _) (Nat.zero_le _) dX7_word_2 (fun v1 cell1 q1 => ?_)
  obtain ⟨rfl, rfl⟩ := q1
  refine g_if_eq C 20 (by decide) dX7_word_5 (fun c5 => ?_) (fun c5 => ?_)
  · -- taken at 5
    have c5' := bI_f c5
    refine g_iconst C (-1) (by decide) dX7_word_20 ?_
    refine g_iret C hr rfl hlk dX7_word_21 ?_
    exact ⟨if_neg (by omega), rfl⟩
  · -- not taken at 5
    have c5' := bI_t c5
    have ez : x = nI x.toNatClampNeg := nI_cl (by omega)
    have kz := cl_toInt (x := x) (by omega)
    generalize hzz : x.toNatClampNeg = z at ez kz
    refine g_eqlv (lv1 := [(0, .ref (adr 0)), (1, .int (nI z))]) (congrArg (fun z0 : Int32 => ([(0, .ref (adr 0)), (1, .int z0)] : List (Nat × Value))) ez) ?_
    refine g_aload_n C 0 rfl dX7_word_8 ?_
    refine g_get C 0 7 0 (by omega) m0 rfl in7 (by decide) f7 (fun _ h9 => h9) rfl dX7_word_9 ?_
    refine g_bipush C 8 (by decide) dX7_word_12 ?_
    refine g_iload_n C 1 rfl dX7_word_14 ?_
    refine g_iadd C dX7_word_15 ?_
    refine g_eqst (st1 := ([.int (nI (8 + z)), .ref (adr 1)] : List Value)) (congrArg (fun z0 : Int32 => (([.int z0, .ref (adr 1)] : List Value))) (mI_add 8 z)) ?_
    refine g_iald C 1 (by omega) m1 (vp_in_nI (by omega) (by omega)) dX7_word_16 ?_
    refine g_eqst (show ([.int (S (nI (8 + z)).toNatClampNeg)] : List Value) = ([.int (S (8 + z))] : List Value) from by rw [nI_clamp (by omega)]) ?_
    refine g_goto C 21 (by decide) dX7_word_17 ?_
    refine g_iret C hr rfl hlk dX7_word_21 ?_
    exact ⟨by unfold atF; rw [if_pos (by omega), hzz]; exact (hS.2.2.2.2.1 z (by omega)).symm, rfl⟩
