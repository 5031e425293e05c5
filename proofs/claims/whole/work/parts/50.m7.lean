set_option maxRecDepth 100000 in
set_option maxHeartbeats 4000000 in
theorem c_X7_those (l : Launch) (D : va_G) (kc : Nat → ClassId) (N : Nat) (adr : Nat → Nat) (cell : Nat → va_E) (S Wa Bg As tx : Nat → Int32) (st ty at' re : Int32) (nu mo sh : Nat → Int32) (σ : SD) (x : Int32) (hB : MB cell adr kc S Wa Bg As st tx ty at' re nu mo sh) (hN : 9 ≤ N) (hS : MS S σ) (hG : Good σ) : MI l yX7_those wsX7_those ({ frames := 7, cells := 0, slots := 0, locals := 162 }) D kc N adr cell [.ref (adr 0), .int x] (fun (v : Int32) (cell1 : Nat → va_E) => aKs σ x σ.2.1 = v ∧ cell = cell1) := by
  refine met_i (cc := cX7_those) (maxL := 4) (ret := (some .int)) (by decide) rfl (Nat.le_of_ble_eq_true rfl) (lv := [(0, .ref (adr 0)), (1, .int x)]) rfl ?_
  intro Pg Ev Sv Mi args below Me Cd Ar C hr hlk hnm
  have in7 : ∀ w ∈ u_ws RX7 TX7 12, w ∈ wsX7_those := by decide +kernel
  have f7 := C.2.2.2.2.1 (.fieldLink RX7 7 "WordAnchorsModel" "s" "[I") (by decide +kernel)
  have hB0 := hB
  obtain ⟨m0, m1, m2, m3, m4, m5, m6, m7, m8⟩ := hB
  have hg1 := hG.1
  have hg2 := hG.2.1
  have e0 := hS.1
  have e1 := hS.2.1
  have litm1 : ((-1) : Int32).toInt = -1 := rfl
  have lit0 : (0 : Int32).toInt = 0 := rfl
  have lit1 : (1 : Int32).toInt = 1 := rfl
  have tn___2_1 : (nI σ.2.1).toInt = ((σ.2.1 : Nat) : Int) := nI_toInt (by omega)
  refine g_iconst C 0 (by decide) dX7_those_0 ?_
  refine g_istore_n C [(2, .int 0), (0, .ref (adr 0)), (1, .int x)] (by decide) rfl dX7_those_1 ?_
  refine g_iconst C 0 (by decide) dX7_those_2 ?_
  refine g_istore_n C [(3, .int 0), (2, .int 0), (0, .ref (adr 0)), (1, .int x)] (by decide) rfl dX7_those_3 ?_
  have L4 : ∀ (fu i : Nat) , i ≤ σ.2.1 → σ.2.1 < i + fu → G Pg l Ev (headSpec wsX7_those { frames := 7, cells := 0, slots := 0, locals := 162 }).room Sv Mi args below Me Cd D N adr Ar Sv.heap 4 0 0 (MQ below (va_Qi (fun (v : Int32) (cell1 : Nat → va_E) => aKs σ x σ.2.1 = v ∧ cell = cell1) (fun (cell1 : Nat → va_E) (t : State) => va_P D vwCl (wld N adr cell1) t.heap) Ar) args Sv 0 0 Ar) cell 4 [(0, .ref (adr 0)), (1, .int x), (2, .int (aKs σ x i)), (3, .int (nI i))] ([] : List Value) := by
    intro fu
    induction fu with
    | zero => intro i  hle hfu; exact absurd hfu (by omega)
    | succ fu ih =>
      intro i  hle4 hfu4  
      have tn_i : (nI i).toInt = ((i : Nat) : Int) := nI_toInt (by omega)
      refine g_iload_n C 3 rfl dX7_those_4 ?_
      refine g_aload_n C 0 rfl dX7_those_5 ?_
      refine g_get C 0 7 0 (by omega) m0 rfl in7 (by decide) f7 (fun _ h9 => h9) rfl dX7_those_6 ?_
      refine g_iconst C 1 (by decide) dX7_those_9 ?_
      refine g_iald C 1 (by omega) m1 (vp_in_iff.mpr (by omega)) dX7_those_10 ?_
      refine g_eqst (st1 := ([.int (S 1), .int (nI i)] : List Value)) rfl ?_
      refine g_eqst (show ([.int (S 1), .int (nI i)] : List Value) = ([.int (nI σ.2.1), .int (nI i)] : List Value) from by rw [e1]) ?_
      refine g_icmp_ge C 39 (by decide) dX7_those_11 (fun c11 => ?_) (fun c11 => ?_)
      · -- taken at 11
        have c11' := i_le c11
        obtain rfl : σ.2.1 = i := by omega
        refine g_iload_n C 2 rfl dX7_those_39 ?_
        refine g_iret C hr rfl hlk dX7_those_40 ?_
        exact ⟨rfl, rfl⟩
      · -- not taken at 11
        have c11' := i_nle c11
        refine g_iload_n C 2 rfl dX7_those_14 ?_
        refine g_aload_n C 0 rfl dX7_those_15 ?_
        refine g_iload_n C 3 rfl dX7_those_16 ?_
        refine g_iload_n C 1 rfl dX7_those_17 ?_
        refine g_Vi C [.int (nI i), .int x] 0 7 (by omega) m0 rfl (c_X7_is l D kc N adr cell S Wa Bg As tx st ty at' re nu mo sh σ i x ⟨m0, m1, m2, m3, m4, m5, m6, m7, m8⟩ (by omega) hS hG (by omega)) (cwV 2 C.2.2.2.2.1 gX7_those_X7_is rfl rfl rfl (by decide +kernel) ⟨Nat.le_of_ble_eq_true rfl, Nat.le_of_ble_eq_true rfl⟩) rfl rfl (Nat.le_of_ble_eq_true rfl) (Nat.zero_le _) (Nat.zero_le _) dX7_those_18 (fun v2 cell2 q2 => ?_)
        obtain ⟨rfl, rfl⟩ := q2
        refine g_if_eq C 30 (by decide) dX7_those_21 (fun c21 => ?_) (fun c21 => ?_)
        · -- taken at 21
          have c21' := bI_bf c21
          refine g_iconst C 0 (by decide) dX7_those_30 ?_
          refine g_ior C dX7_those_31 ?_
          refine g_istore_n C [(2, .int ((aKs σ x i) ||| 0)), (0, .ref (adr 0)), (1, .int x), (3, .int (nI i))] (by decide) rfl dX7_those_32 ?_
          refine g_iinc C 3 [(3, .int (nI (i + 1))), (2, .int ((aKs σ x i) ||| 0)), (0, .ref (adr 0)), (1, .int x)] rfl (iinc_nI i) (by decide) rfl dX7_those_33 ?_
          refine g_goto C 4 (by decide) dX7_those_36 ?_
          have hb : aKs σ x i ||| 0 = aKs σ x (i + 1) := (Int32.or_zero).trans (if_neg (fun h => absurd (c21'.symm.trans h) Bool.false_ne_true)).symm
          refine g_sub [2, 3, 1, 0] rfl ?_
          have ev_3 : (aKs σ x i) ||| 0 = aKs σ x (i + 1) := by exact hb
          refine g_eqlv (lv1 := [(0, .ref (adr 0)), (1, .int x), (2, .int (aKs σ x (i + 1))), (3, .int (nI (i + 1)))]) (congrArg (fun z0 : Int32 => ([(0, .ref (adr 0)), (1, .int x), (2, .int z0), (3, .int (nI (i + 1)))] : List (Nat × Value))) ev_3) ?_
          exact ih (i + 1) (by omega) (by omega) 
        · -- not taken at 21
          have c21' := bI_bt c21
          refine g_iconst C 1 (by decide) dX7_those_24 ?_
          refine g_iload_n C 3 rfl dX7_those_25 ?_
          refine g_ishl C dX7_those_26 ?_
          refine g_goto C 31 (by decide) dX7_those_27 ?_
          refine g_ior C dX7_those_31 ?_
          refine g_istore_n C [(2, .int ((aKs σ x i) ||| (1 <<< ((nI i) &&& 31)))), (0, .ref (adr 0)), (1, .int x), (3, .int (nI i))] (by decide) rfl dX7_those_32 ?_
          refine g_iinc C 3 [(3, .int (nI (i + 1))), (2, .int ((aKs σ x i) ||| (1 <<< ((nI i) &&& 31)))), (0, .ref (adr 0)), (1, .int x)] rfl (iinc_nI i) (by decide) rfl dX7_those_33 ?_
          refine g_goto C 4 (by decide) dX7_those_36 ?_
          have hb : aKs σ x i ||| ((1 : Int32) <<< (nI i &&& 31)) = aKs σ x (i + 1) := (if_pos c21').symm
          refine g_sub [2, 3, 1, 0] rfl ?_
          have ev_4 : (aKs σ x i) ||| (1 <<< ((nI i) &&& 31)) = aKs σ x (i + 1) := by exact hb
          refine g_eqlv (lv1 := [(0, .ref (adr 0)), (1, .int x), (2, .int (aKs σ x (i + 1))), (3, .int (nI (i + 1)))]) (congrArg (fun z0 : Int32 => ([(0, .ref (adr 0)), (1, .int x), (2, .int z0), (3, .int (nI (i + 1)))] : List (Nat × Value))) ev_4) ?_
          exact ih (i + 1) (by omega) (by omega) 
  refine g_sub [2, 3, 1, 0] rfl ?_
  have ev_5 : 0 = aKs σ x 0 := by rfl
  refine g_eqlv (lv1 := [(0, .ref (adr 0)), (1, .int x), (2, .int (aKs σ x 0)), (3, .int 0)]) (congrArg (fun z0 : Int32 => ([(0, .ref (adr 0)), (1, .int x), (2, .int z0), (3, .int 0)] : List (Nat × Value))) ev_5) ?_
  exact L4 (σ.2.1 + 1) 0 (by omega) (by omega) 
set_option maxRecDepth 100000 in
set_option maxHeartbeats 4000000 in
theorem c_X7_anchors (l : Launch) (D : va_G) (kc : Nat → ClassId) (N : Nat) (adr : Nat → Nat) (cell : Nat → va_E) (σ : SD) (hn : Nat) (hi : Nat → SD) (L : Nat) (ch : Nat → Int32) (x : Int32) (hM : MAt cell adr kc σ hn hi L ch) (hG : Good σ) (hN : 9 ≤ N) : MI l yX7_anchors wsX7_anchors ({ frames := 8, cells := 0, slots := 0, locals := 185 }) D kc N adr cell [.ref (adr 0), .int x] (fun (v : Int32) (cell1 : Nat → va_E) => anchorsR σ x = v ∧ cell = cell1) := by
  refine met_i (cc := cX7_anchors) (maxL := 2) (ret := (some .int)) (by decide) rfl (Nat.le_of_ble_eq_true rfl) (lv := [(0, .ref (adr 0)), (1, .int x)]) rfl ?_
  intro Pg Ev Sv Mi args below Me Cd Ar C hr hlk hnm
  have k43 := C.2.2.2.2.1 (.constant RX7 43 (-1000001)) (by decide +kernel)
  have hM0 := hM
  obtain ⟨S, Wa, Bg, As, tx, at', re, nu, mo, sh, hB, hS, hH, htx, hh4, hL60⟩ := hM
  have hB0 := hB
  obtain ⟨m0, m1, m2, m3, m4, m5, m6, m7, m8⟩ := hB
  have hg1 := hG.1
  have hg2 := hG.2.1
  have e0 := hS.1
  have e1 := hS.2.1
  have litm1000001 : ((-1000001) : Int32).toInt = -1000001 := rfl
  have litm1 : ((-1) : Int32).toInt = -1 := rfl
  have lit0 : (0 : Int32).toInt = 0 := rfl
  have lit1 : (1 : Int32).toInt = 1 := rfl
  have lit5 : (5 : Int32).toInt = 5 := rfl
  have tn___1 : (nI σ.1).toInt = ((σ.1 : Nat) : Int) := nI_toInt (by omega)
  have tn___2_1 : (nI σ.2.1).toInt = ((σ.2.1 : Nat) : Int) := nI_toInt (by omega)
  have tn_hn : (nI hn).toInt = ((hn : Nat) : Int) := nI_toInt (by omega)
  have tn_L : (nI L).toInt = ((L : Nat) : Int) := nI_toInt (by omega)
  refine g_iload_n C 1 rfl dX7_anchors_0 ?_
  refine g_iconst C 0 (by decide) dX7_anchors_1 ?_
  refine g_iconst C 5 (by decide) dX7_anchors_2 ?_
  refine g_Si C [.int x, .int 0, .int 5] (c_X7_in l D kc N adr cell x 0 5) (va_cwS 3 C.2.2.2.2.1 gX7_anchors_X7_in rfl rfl rfl (by decide +kernel) ⟨Nat.le_of_ble_eq_true rfl, Nat.le_of_ble_eq_true rfl⟩) rfl rfl (Nat.le_of_ble_eq_true rfl) (Nat.zero_le _) (Nat.zero_le _) dX7_anchors_3 (fun v1 cell1 q1 => ?_)
  obtain ⟨rfl, rfl⟩ := q1
  refine g_if_eq C 17 (by decide) dX7_anchors_6 (fun c6 => ?_) (fun c6 => ?_)
  · -- taken at 6
    have c6' := bI_f c6
    refine g_ldc C (-1000001) k43 dX7_anchors_17 ?_
    refine g_iret C hr rfl hlk dX7_anchors_19 ?_
    exact ⟨by unfold anchorsR; exact if_pos (by omega), rfl⟩
  · -- not taken at 6
    have c6' := bI_t c6
    refine g_aload_n C 0 rfl dX7_anchors_9 ?_
    refine g_iload_n C 1 rfl dX7_anchors_10 ?_
    refine g_Vi C [.int x] 0 7 (by omega) m0 rfl (c_X7_those l D kc N adr cell S Wa Bg As tx (nI hn) (nI L) at' re nu mo sh σ x ⟨m0, m1, m2, m3, m4, m5, m6, m7, m8⟩ (by omega) hS hG) (cwV 1 C.2.2.2.2.1 gX7_anchors_X7_those rfl rfl rfl (by decide +kernel) ⟨Nat.le_of_ble_eq_true rfl, Nat.le_of_ble_eq_true rfl⟩) rfl rfl (Nat.le_of_ble_eq_true rfl) (Nat.zero_le _) (Nat.zero_le _) dX7_anchors_11 (fun v2 cell2 q2 => ?_)
    obtain ⟨rfl, rfl⟩ := q2
    refine g_goto C 19 (by decide) dX7_anchors_14 ?_
    refine g_iret C hr rfl hlk dX7_anchors_19 ?_
    exact ⟨by unfold anchorsR; exact if_neg (by omega), rfl⟩
set_option maxRecDepth 100000 in
set_option maxHeartbeats 4000000 in
theorem c_X7_score (l : Launch) (D : va_G) (kc : Nat → ClassId) (N : Nat) (adr : Nat → Nat) (cell : Nat → va_E) (σ : SD) (hn : Nat) (hi : Nat → SD) (L : Nat) (ch : Nat → Int32) (x y : Int32) (hM : MAt cell adr kc σ hn hi L ch) (hG : Good σ) (hN : 9 ≤ N) : MI l yX7_score wsX7_score ({ frames := 4, cells := 0, slots := 0, locals := 89 }) D kc N adr cell [.ref (adr 0), .int x, .int y] (fun (v : Int32) (cell1 : Nat → va_E) => scoreR σ x y = v ∧ cell = cell1) := by
  refine met_i (cc := cX7_score) (maxL := 3) (ret := (some .int)) (by decide) rfl (Nat.le_of_ble_eq_true rfl) (lv := [(0, .ref (adr 0)), (1, .int x), (2, .int y)]) rfl ?_
  intro Pg Ev Sv Mi args below Me Cd Ar C hr hlk hnm
  have k43 := C.2.2.2.2.1 (.constant RX7 43 (-1000001)) (by decide +kernel)
  have hM0 := hM
  obtain ⟨S, Wa, Bg, As, tx, at', re, nu, mo, sh, hB, hS, hH, htx, hh4, hL60⟩ := hM
  have hB0 := hB
  obtain ⟨m0, m1, m2, m3, m4, m5, m6, m7, m8⟩ := hB
  have hg1 := hG.1
  have hg2 := hG.2.1
  have e0 := hS.1
  have e1 := hS.2.1
  have litm1000001 : ((-1000001) : Int32).toInt = -1000001 := rfl
  have litm1 : ((-1) : Int32).toInt = -1 := rfl
  have lit0 : (0 : Int32).toInt = 0 := rfl
  have lit1 : (1 : Int32).toInt = 1 := rfl
  have tn___1 : (nI σ.1).toInt = ((σ.1 : Nat) : Int) := nI_toInt (by omega)
  have tn___2_1 : (nI σ.2.1).toInt = ((σ.2.1 : Nat) : Int) := nI_toInt (by omega)
  have tn_hn : (nI hn).toInt = ((hn : Nat) : Int) := nI_toInt (by omega)
  have tn_L : (nI L).toInt = ((L : Nat) : Int) := nI_toInt (by omega)
  refine g_aload_n C 0 rfl dX7_score_0 ?_
  refine g_iload_n C 1 rfl dX7_score_1 ?_
  refine g_Vi C [.int x] 0 7 (by omega) m0 rfl (c_X7_isAnchor l D kc N adr cell S Wa Bg As tx (nI hn) (nI L) at' re nu mo sh σ x ⟨m0, m1, m2, m3, m4, m5, m6, m7, m8⟩ (by omega) hS hG.1 hG.2.1) (cwV 1 C.2.2.2.2.1 gX7_score_X7_isAnchor rfl rfl rfl (by decide +kernel) ⟨Nat.le_of_ble_eq_true rfl, Nat.le_of_ble_eq_true rfl⟩) rfl rfl (Nat.le_of_ble_eq_true rfl) (Nat.zero_le _) (Nat.zero_le _) dX7_score_2 (fun v1 cell1 q1 => ?_)
  obtain ⟨rfl, rfl⟩ := q1
  refine g_if_eq C 25 (by decide) dX7_score_5 (fun c5 => ?_) (fun c5 => ?_)
  · -- taken at 5
    have c5' := bI_f c5
    refine g_ldc C (-1000001) k43 dX7_score_25 ?_
    refine g_iret C hr rfl hlk dX7_score_27 ?_
    exact ⟨by unfold scoreR; exact if_pos (by unfold InA; omega), rfl⟩
  · -- not taken at 5
    have c5' := bI_t c5
    have ez : x = nI x.toNatClampNeg := nI_cl (by omega)
    have kz := cl_toInt (x := x) (by omega)
    generalize hzz : x.toNatClampNeg = z at ez kz
    refine g_eqlv (lv1 := [(0, .ref (adr 0)), (1, .int (nI z)), (2, .int y)]) (congrArg (fun z0 : Int32 => ([(0, .ref (adr 0)), (1, .int z0), (2, .int y)] : List (Nat × Value))) ez) ?_
    refine g_aload_n C 0 rfl dX7_score_8 ?_
    refine g_iload_n C 2 rfl dX7_score_9 ?_
    refine g_Vi C [.int y] 0 7 (by omega) m0 rfl (c_X7_isPlace l D kc N adr cell S Wa Bg As tx (nI hn) (nI L) at' re nu mo sh σ y ⟨m0, m1, m2, m3, m4, m5, m6, m7, m8⟩ (by omega) hS hG.1 hG.2.1) (cwV 1 C.2.2.2.2.1 gX7_score_X7_isPlace rfl rfl rfl (by decide +kernel) ⟨Nat.le_of_ble_eq_true rfl, Nat.le_of_ble_eq_true rfl⟩) rfl rfl (Nat.le_of_ble_eq_true rfl) (Nat.zero_le _) (Nat.zero_le _) dX7_score_10 (fun v2 cell2 q2 => ?_)
    obtain ⟨rfl, rfl⟩ := q2
    refine g_if_eq C 25 (by decide) dX7_score_13 (fun c13 => ?_) (fun c13 => ?_)
    · -- taken at 13
      have c13' := bI_f c13
      refine g_ldc C (-1000001) k43 dX7_score_25 ?_
      refine g_iret C hr rfl hlk dX7_score_27 ?_
      exact ⟨by unfold scoreR; exact if_pos (by unfold InA; omega), rfl⟩
    · -- not taken at 13
      have c13' := bI_t c13
      refine g_aload_n C 0 rfl dX7_score_16 ?_
      refine g_iload_n C 1 rfl dX7_score_17 ?_
      refine g_iload_n C 2 rfl dX7_score_18 ?_
      refine g_Vi C [.int (nI z), .int y] 0 7 (by omega) m0 rfl (c_X7_scoreAt l D kc N adr cell S Wa Bg As tx (nI hn) (nI L) at' re nu mo sh σ z y ⟨m0, m1, m2, m3, m4, m5, m6, m7, m8⟩ (by omega) hS hG (by omega)) (cwV 2 C.2.2.2.2.1 gX7_score_X7_scoreAt rfl rfl rfl (by decide +kernel) ⟨Nat.le_of_ble_eq_true rfl, Nat.le_of_ble_eq_true rfl⟩) rfl rfl (Nat.le_of_ble_eq_true rfl) (Nat.zero_le _) (Nat.zero_le _) dX7_score_19 (fun v3 cell3 q3 => ?_)
      obtain ⟨rfl, rfl⟩ := q3
      refine g_goto C 27 (by decide) dX7_score_22 ?_
      refine g_iret C hr rfl hlk dX7_score_27 ?_
      exact ⟨by unfold scoreR; rw [if_neg (by unfold InA; omega), hzz]; rfl, rfl⟩
set_option maxRecDepth 100000 in
set_option maxHeartbeats 4000000 in
theorem c_X7_anchorOf (l : Launch) (D : va_G) (kc : Nat → ClassId) (N : Nat) (adr : Nat → Nat) (cell : Nat → va_E) (σ : SD) (hn : Nat) (hi : Nat → SD) (L : Nat) (ch : Nat → Int32) (x y : Int32) (hM : MAt cell adr kc σ hn hi L ch) (hG : Good σ) (hN : 9 ≤ N) : MI l yX7_anchorOf wsX7_anchorOf ({ frames := 6, cells := 0, slots := 0, locals := 140 }) D kc N adr cell [.ref (adr 0), .int x, .int y] (fun (v : Int32) (cell1 : Nat → va_E) => anchorOfR σ x y = v ∧ cell = cell1) := by
  refine met_i (cc := cX7_anchorOf) (maxL := 5) (ret := (some .int)) (by decide) rfl (Nat.le_of_ble_eq_true rfl) (lv := [(0, .ref (adr 0)), (1, .int x), (2, .int y)]) rfl ?_
  intro Pg Ev Sv Mi args below Me Cd Ar C hr hlk hnm
  have k43 := C.2.2.2.2.1 (.constant RX7 43 (-1000001)) (by decide +kernel)
  have k100 := C.2.2.2.2.1 (.constant RX7 100 (-1000004)) (by decide +kernel)
  have hM0 := hM
  obtain ⟨S, Wa, Bg, As, tx, at', re, nu, mo, sh, hB, hS, hH, htx, hh4, hL60⟩ := hM
  have hB0 := hB
  obtain ⟨m0, m1, m2, m3, m4, m5, m6, m7, m8⟩ := hB
  have hg1 := hG.1
  have hg2 := hG.2.1
  have e0 := hS.1
  have e1 := hS.2.1
  have litm1000004 : ((-1000004) : Int32).toInt = -1000004 := rfl
  have litm1000001 : ((-1000001) : Int32).toInt = -1000001 := rfl
  have litm1 : ((-1) : Int32).toInt = -1 := rfl
  have lit0 : (0 : Int32).toInt = 0 := rfl
  have lit1 : (1 : Int32).toInt = 1 := rfl
  have lit7 : (7 : Int32).toInt = 7 := rfl
  have lit8 : (8 : Int32).toInt = 8 := rfl
  have lit9 : (9 : Int32).toInt = 9 := rfl
  have lit10 : (10 : Int32).toInt = 10 := rfl
  have lit11 : (11 : Int32).toInt = 11 := rfl
  have lit12 : (12 : Int32).toInt = 12 := rfl
  have tn___1 : (nI σ.1).toInt = ((σ.1 : Nat) : Int) := nI_toInt (by omega)
  have tn___2_1 : (nI σ.2.1).toInt = ((σ.2.1 : Nat) : Int) := nI_toInt (by omega)
  have tn_hn : (nI hn).toInt = ((hn : Nat) : Int) := nI_toInt (by omega)
  have tn_L : (nI L).toInt = ((L : Nat) : Int) := nI_toInt (by omega)
  refine g_aload_n C 0 rfl dX7_anchorOf_0 ?_
  refine g_iload_n C 1 rfl dX7_anchorOf_1 ?_
  refine g_Vi C [.int x] 0 7 (by omega) m0 rfl (c_X7_isAnchor l D kc N adr cell S Wa Bg As tx (nI hn) (nI L) at' re nu mo sh σ x ⟨m0, m1, m2, m3, m4, m5, m6, m7, m8⟩ (by omega) hS hG.1 hG.2.1) (cwV 1 C.2.2.2.2.1 gX7_anchorOf_X7_isAnchor rfl rfl rfl (by decide +kernel) ⟨Nat.le_of_ble_eq_true rfl, Nat.le_of_ble_eq_true rfl⟩) rfl rfl (Nat.le_of_ble_eq_true rfl) (Nat.zero_le _) (Nat.zero_le _) dX7_anchorOf_2 (fun v1 cell1 q1 => ?_)
  obtain ⟨rfl, rfl⟩ := q1
  refine g_if_eq C 18 (by decide) dX7_anchorOf_5 (fun c5 => ?_) (fun c5 => ?_)
  · -- taken at 5
    have c5' := bI_f c5
    refine g_ldc C (-1000001) k43 dX7_anchorOf_18 ?_
    refine g_iret C hr rfl hlk dX7_anchorOf_20 ?_
    exact ⟨by unfold anchorOfR; exact if_pos (fun h => by have h1 := h.1; have h2 := h.2; unfold InA at h1; omega), rfl⟩
  · -- not taken at 5
    have c5' := bI_t c5
    refine g_iload_n C 2 rfl dX7_anchorOf_8 ?_
    refine g_iconst C 0 (by decide) dX7_anchorOf_9 ?_
    refine g_bipush C 12 (by decide) dX7_anchorOf_10 ?_
    refine g_Si C [.int y, .int 0, .int 12] (c_X7_in l D kc N adr cell y 0 12) (va_cwS 3 C.2.2.2.2.1 gX7_anchorOf_X7_in rfl rfl rfl (by decide +kernel) ⟨Nat.le_of_ble_eq_true rfl, Nat.le_of_ble_eq_true rfl⟩) rfl rfl (Nat.le_of_ble_eq_true rfl) (Nat.zero_le _) (Nat.zero_le _) dX7_anchorOf_12 (fun v2 cell2 q2 => ?_)
    obtain ⟨rfl, rfl⟩ := q2
    refine g_if_ne C 21 (by decide) dX7_anchorOf_15 (fun c15 => ?_) (fun c15 => ?_)
    · -- taken at 15
      have c15' := bI_t c15
      have ez : x = nI x.toNatClampNeg := nI_cl (by omega)
      have kz := cl_toInt (x := x) (by omega)
      generalize hzz : x.toNatClampNeg = z at ez kz
      refine g_eqlv (lv1 := [(0, .ref (adr 0)), (1, .int (nI z)), (2, .int y)]) (congrArg (fun z0 : Int32 => ([(0, .ref (adr 0)), (1, .int z0), (2, .int y)] : List (Nat × Value))) ez) ?_
      refine g_aload_n C 0 rfl dX7_anchorOf_21 ?_
      refine g_iload_n C 1 rfl dX7_anchorOf_22 ?_
      refine g_iconst C (-1) (by decide) dX7_anchorOf_23 ?_
      refine g_Vi C [.int (nI z), .int (-1)] 0 7 (by omega) m0 rfl (c_X7_best l D kc N adr cell S Wa Bg As tx (nI hn) (nI L) at' re nu mo sh σ z (-1) ⟨m0, m1, m2, m3, m4, m5, m6, m7, m8⟩ (by omega) hS hG (by omega)) (cwV 2 C.2.2.2.2.1 gX7_anchorOf_X7_best rfl rfl rfl (by decide +kernel) ⟨Nat.le_of_ble_eq_true rfl, Nat.le_of_ble_eq_true rfl⟩) rfl rfl (Nat.le_of_ble_eq_true rfl) (Nat.zero_le _) (Nat.zero_le _) dX7_anchorOf_24 (fun v3 cell3 q3 => ?_)
      obtain ⟨rfl, rfl⟩ := q3
      refine g_istore_n C [(3, .int (bpF σ.1 σ.2.2.2.1 σ.2.2.2.2.2.2.1 (σ.2.2.2.2.2.2.2.2.2 z) (σ.2.2.2.2.2.2.2.1 z) (-1))), (0, .ref (adr 0)), (1, .int (nI z)), (2, .int y)] (by decide) rfl dX7_anchorOf_27 ?_
      refine g_iload_n C 0 rfl dX7_anchorOf_28 ?_
      refine g_if_ge C 36 (by decide) dX7_anchorOf_29 (fun c29 => ?_) (fun c29 => ?_)
      · -- taken at 29
        have c29' := i_le c29
        refine g_aload_n C 1 rfl dX7_anchorOf_36 ?_
        refine g_iload_n C 2 rfl dX7_anchorOf_37 ?_
        refine g_iload_n C 0 rfl dX7_anchorOf_38 ?_
        refine g_Vi C [.int (nI z), .int (bpF σ.1 σ.2.2.2.1 σ.2.2.2.2.2.2.1 (σ.2.2.2.2.2.2.2.2.2 z) (σ.2.2.2.2.2.2.2.1 z) (-1))] 0 7 (by omega) m0 rfl (c_X7_best l D kc N adr cell S Wa Bg As tx (nI hn) (nI L) at' re nu mo sh σ z (bpF σ.1 σ.2.2.2.1 σ.2.2.2.2.2.2.1 (σ.2.2.2.2.2.2.2.2.2 z) (σ.2.2.2.2.2.2.2.1 z) (-1)) ⟨m0, m1, m2, m3, m4, m5, m6, m7, m8⟩ (by omega) hS hG (by omega)) (cwV 2 C.2.2.2.2.1 gX7_anchorOf_X7_best rfl rfl rfl (by decide +kernel) ⟨Nat.le_of_ble_eq_true rfl, Nat.le_of_ble_eq_true rfl⟩) rfl rfl (Nat.le_of_ble_eq_true rfl) (Nat.zero_le _) (Nat.zero_le _) dX7_anchorOf_39 (fun v4 cell4 q4 => ?_)
        obtain ⟨rfl, rfl⟩ := q4
        refine g_istore C [(4, .int (bpF σ.1 σ.2.2.2.1 σ.2.2.2.2.2.2.1 (σ.2.2.2.2.2.2.2.2.2 z) (σ.2.2.2.2.2.2.2.1 z) (bpF σ.1 σ.2.2.2.1 σ.2.2.2.2.2.2.1 (σ.2.2.2.2.2.2.2.2.2 z) (σ.2.2.2.2.2.2.2.1 z) (-1)))), (3, .int (bpF σ.1 σ.2.2.2.1 σ.2.2.2.2.2.2.1 (σ.2.2.2.2.2.2.2.2.2 z) (σ.2.2.2.2.2.2.2.1 z) (-1))), (0, .ref (adr 0)), (1, .int (nI z)), (2, .int y)] (by decide) rfl dX7_anchorOf_42 ?_
        refine g_iload_n C 4 rfl dX7_anchorOf_44 ?_
        by_cases c45_7 : y = 7
        · have c45' := i_eq c45_7
          refine g_tableIn C 84 (by rw [c45_7]; decide) (by rw [c45_7]; decide) (by rw [c45_7] <;> rfl) (by decide) dX7_anchorOf_45 ?_
          refine g_aload_n C 2 rfl dX7_anchorOf_84 ?_
          refine g_iload_n C 3 rfl dX7_anchorOf_85 ?_
          refine g_Vi C [.int (nI z)] 0 7 (by omega) m0 rfl (c_X7_how l D kc N adr cell S Wa Bg As tx (nI hn) (nI L) at' re nu mo sh σ z ⟨m0, m1, m2, m3, m4, m5, m6, m7, m8⟩ (by omega) hS hG (by omega)) (cwV 1 C.2.2.2.2.1 gX7_anchorOf_X7_how rfl rfl rfl (by decide +kernel) ⟨Nat.le_of_ble_eq_true rfl, Nat.le_of_ble_eq_true rfl⟩) rfl rfl (Nat.le_of_ble_eq_true rfl) (Nat.zero_le _) (Nat.zero_le _) dX7_anchorOf_86 (fun v5 cell5 q5 => ?_)
          obtain ⟨rfl, rfl⟩ := q5
          refine g_iret C hr rfl hlk dX7_anchorOf_89 ?_
          have hcond : InA σ x ∧ 0 ≤ y.toInt ∧ y.toInt ≤ 12 := ⟨by unfold InA; omega, by omega⟩
          exact ⟨by unfold anchorOfR; rw [if_neg (fun h => h hcond), if_neg (by rw [c45_7]; decide), if_neg (by rw [c45_7]; decide), if_pos c45_7, hzz]; rfl, rfl⟩
        have c45n7 := i_ne c45_7
        by_cases c45_8 : y = 8
        · have c45' := i_eq c45_8
          refine g_tableIn C 90 (by rw [c45_8]; decide) (by rw [c45_8]; decide) (by rw [c45_8] <;> rfl) (by decide) dX7_anchorOf_45 ?_
          refine g_iload_n C 1 rfl dX7_anchorOf_90 ?_
          refine g_Si C [.int (bpF σ.1 σ.2.2.2.1 σ.2.2.2.2.2.2.1 (σ.2.2.2.2.2.2.2.2.2 z) (σ.2.2.2.2.2.2.2.1 z) (-1))] (c_X7_orNone l D kc N adr cell (bpF σ.1 σ.2.2.2.1 σ.2.2.2.2.2.2.1 (σ.2.2.2.2.2.2.2.2.2 z) (σ.2.2.2.2.2.2.2.1 z) (-1))) (va_cwS 1 C.2.2.2.2.1 gX7_anchorOf_X7_orNone rfl rfl rfl (by decide +kernel) ⟨Nat.le_of_ble_eq_true rfl, Nat.le_of_ble_eq_true rfl⟩) rfl rfl (Nat.le_of_ble_eq_true rfl) (Nat.zero_le _) (Nat.zero_le _) dX7_anchorOf_91 (fun v6 cell6 q6 => ?_)
          obtain ⟨rfl, rfl⟩ := q6
          refine g_iret C hr rfl hlk dX7_anchorOf_94 ?_
          have hcond : InA σ x ∧ 0 ≤ y.toInt ∧ y.toInt ≤ 12 := ⟨by unfold InA; omega, by omega⟩
          exact ⟨by unfold anchorOfR; rw [if_neg (fun h => h hcond), if_neg (by rw [c45_8]; decide), if_neg (by rw [c45_8]; decide), if_neg (by rw [c45_8]; decide), if_pos c45_8, hzz]; exact orN_of (bp_ok hg1), rfl⟩
        have c45n8 := i_ne c45_8
        by_cases c45_9 : y = 9
        · have c45' := i_eq c45_9
          refine g_tableIn C 95 (by rw [c45_9]; decide) (by rw [c45_9]; decide) (by rw [c45_9] <;> rfl) (by decide) dX7_anchorOf_45 ?_
          refine g_iload_n C 1 rfl dX7_anchorOf_95 ?_
          refine g_if_ge C 104 (by decide) dX7_anchorOf_96 (fun c96 => ?_) (fun c96 => ?_)
          · -- taken at 96
            have c96' := i_le c96
            refine g_aload_n C 2 rfl dX7_anchorOf_104 ?_
            refine g_iload_n C 3 rfl dX7_anchorOf_105 ?_
            refine g_iload_n C 1 rfl dX7_anchorOf_106 ?_
            refine g_Vi C [.int (nI z), .int (bpF σ.1 σ.2.2.2.1 σ.2.2.2.2.2.2.1 (σ.2.2.2.2.2.2.2.2.2 z) (σ.2.2.2.2.2.2.2.1 z) (-1))] 0 7 (by omega) m0 rfl (c_X7_scoreAt l D kc N adr cell S Wa Bg As tx (nI hn) (nI L) at' re nu mo sh σ z (bpF σ.1 σ.2.2.2.1 σ.2.2.2.2.2.2.1 (σ.2.2.2.2.2.2.2.2.2 z) (σ.2.2.2.2.2.2.2.1 z) (-1)) ⟨m0, m1, m2, m3, m4, m5, m6, m7, m8⟩ (by omega) hS hG (by omega)) (cwV 2 C.2.2.2.2.1 gX7_anchorOf_X7_scoreAt rfl rfl rfl (by decide +kernel) ⟨Nat.le_of_ble_eq_true rfl, Nat.le_of_ble_eq_true rfl⟩) rfl rfl (Nat.le_of_ble_eq_true rfl) (Nat.zero_le _) (Nat.zero_le _) dX7_anchorOf_107 (fun v7 cell7 q7 => ?_)
            obtain ⟨rfl, rfl⟩ := q7
            refine g_iret C hr rfl hlk dX7_anchorOf_110 ?_
            have hcond : InA σ x ∧ 0 ≤ y.toInt ∧ y.toInt ≤ 12 := ⟨by unfold InA; omega, by omega⟩
            exact ⟨by unfold anchorOfR; rw [if_neg (fun h => h hcond), if_neg (by rw [c45_9]; decide), if_neg (by rw [c45_9]; decide), if_neg (by rw [c45_9]; decide), if_neg (by rw [c45_9]; decide), if_pos c45_9, hzz]; exact if_neg (bp_nlt (Int32.not_lt.mpr c96)), rfl⟩
          · -- not taken at 96
            have c96' := i_nle c96
            refine g_ldc C (-1000004) k100 dX7_anchorOf_99 ?_
            refine g_goto C 110 (by decide) dX7_anchorOf_101 ?_
            refine g_iret C hr rfl hlk dX7_anchorOf_110 ?_
            have hcond : InA σ x ∧ 0 ≤ y.toInt ∧ y.toInt ≤ 12 := ⟨by unfold InA; omega, by omega⟩
            exact ⟨by unfold anchorOfR; rw [if_neg (fun h => h hcond), if_neg (by rw [c45_9]; decide), if_neg (by rw [c45_9]; decide), if_neg (by rw [c45_9]; decide), if_neg (by rw [c45_9]; decide), if_pos c45_9, hzz]; exact if_pos (bp_lt hg1 (Int32.not_le.mp c96)), rfl⟩
        have c45n9 := i_ne c45_9
        by_cases c45_10 : y = 10
        · have c45' := i_eq c45_10
          refine g_tableIn C 111 (by rw [c45_10]; decide) (by rw [c45_10]; decide) (by rw [c45_10] <;> rfl) (by decide) dX7_anchorOf_45 ?_
          refine g_iload C 0 rfl dX7_anchorOf_111 ?_
          refine g_Si C [.int (bpF σ.1 σ.2.2.2.1 σ.2.2.2.2.2.2.1 (σ.2.2.2.2.2.2.2.2.2 z) (σ.2.2.2.2.2.2.2.1 z) (bpF σ.1 σ.2.2.2.1 σ.2.2.2.2.2.2.1 (σ.2.2.2.2.2.2.2.2.2 z) (σ.2.2.2.2.2.2.2.1 z) (-1)))] (c_X7_orNone l D kc N adr cell (bpF σ.1 σ.2.2.2.1 σ.2.2.2.2.2.2.1 (σ.2.2.2.2.2.2.2.2.2 z) (σ.2.2.2.2.2.2.2.1 z) (bpF σ.1 σ.2.2.2.1 σ.2.2.2.2.2.2.1 (σ.2.2.2.2.2.2.2.2.2 z) (σ.2.2.2.2.2.2.2.1 z) (-1)))) (va_cwS 1 C.2.2.2.2.1 gX7_anchorOf_X7_orNone rfl rfl rfl (by decide +kernel) ⟨Nat.le_of_ble_eq_true rfl, Nat.le_of_ble_eq_true rfl⟩) rfl rfl (Nat.le_of_ble_eq_true rfl) (Nat.zero_le _) (Nat.zero_le _) dX7_anchorOf_113 (fun v8 cell8 q8 => ?_)
          obtain ⟨rfl, rfl⟩ := q8
          refine g_iret C hr rfl hlk dX7_anchorOf_116 ?_
          have hcond : InA σ x ∧ 0 ≤ y.toInt ∧ y.toInt ≤ 12 := ⟨by unfold InA; omega, by omega⟩
          exact ⟨by unfold anchorOfR; rw [if_neg (fun h => h hcond), if_neg (by rw [c45_10]; decide), if_neg (by rw [c45_10]; decide), if_neg (by rw [c45_10]; decide), if_neg (by rw [c45_10]; decide), if_neg (by rw [c45_10]; decide), if_pos c45_10, hzz]; exact orN_of (bp_ok hg1), rfl⟩
        have c45n10 := i_ne c45_10
        by_cases c45_11 : y = 11
        · have c45' := i_eq c45_11
          refine g_tableIn C 117 (by rw [c45_11]; decide) (by rw [c45_11]; decide) (by rw [c45_11] <;> rfl) (by decide) dX7_anchorOf_45 ?_
          refine g_iload C 0 rfl dX7_anchorOf_117 ?_
          refine g_if_ge C 127 (by decide) dX7_anchorOf_119 (fun c119 => ?_) (fun c119 => ?_)
          · -- taken at 119
            have c119' := i_le c119
            
            refine g_aload_n C 2 rfl dX7_anchorOf_127 ?_
            refine g_iload_n C 3 rfl dX7_anchorOf_128 ?_
            refine g_iload C 0 rfl dX7_anchorOf_129 ?_
            refine g_Vi C [.int (nI z), .int (bpF σ.1 σ.2.2.2.1 σ.2.2.2.2.2.2.1 (σ.2.2.2.2.2.2.2.2.2 z) (σ.2.2.2.2.2.2.2.1 z) (bpF σ.1 σ.2.2.2.1 σ.2.2.2.2.2.2.1 (σ.2.2.2.2.2.2.2.2.2 z) (σ.2.2.2.2.2.2.2.1 z) (-1)))] 0 7 (by omega) m0 rfl (c_X7_scoreAt l D kc N adr cell S Wa Bg As tx (nI hn) (nI L) at' re nu mo sh σ z (bpF σ.1 σ.2.2.2.1 σ.2.2.2.2.2.2.1 (σ.2.2.2.2.2.2.2.2.2 z) (σ.2.2.2.2.2.2.2.1 z) (bpF σ.1 σ.2.2.2.1 σ.2.2.2.2.2.2.1 (σ.2.2.2.2.2.2.2.2.2 z) (σ.2.2.2.2.2.2.2.1 z) (-1))) ⟨m0, m1, m2, m3, m4, m5, m6, m7, m8⟩ (by omega) hS hG (by omega)) (cwV 2 C.2.2.2.2.1 gX7_anchorOf_X7_scoreAt rfl rfl rfl (by decide +kernel) ⟨Nat.le_of_ble_eq_true rfl, Nat.le_of_ble_eq_true rfl⟩) rfl rfl (Nat.le_of_ble_eq_true rfl) (Nat.zero_le _) (Nat.zero_le _) dX7_anchorOf_131 (fun v9 cell9 q9 => ?_)
            obtain ⟨rfl, rfl⟩ := q9
            refine g_iret C hr rfl hlk dX7_anchorOf_134 ?_
            have hcond : InA σ x ∧ 0 ≤ y.toInt ∧ y.toInt ≤ 12 := ⟨by unfold InA; omega, by omega⟩
            exact ⟨by unfold anchorOfR; rw [if_neg (fun h => h hcond), if_neg (by rw [c45_11]; decide), if_neg (by rw [c45_11]; decide), if_neg (by rw [c45_11]; decide), if_neg (by rw [c45_11]; decide), if_neg (by rw [c45_11]; decide), if_neg (by rw [c45_11]; decide), if_pos c45_11, hzz]; exact if_neg (bp_nlt (Int32.not_lt.mpr c119)), rfl⟩
          · -- not taken at 119
            have c119' := i_nle c119
            refine g_ldc C (-1000004) k100 dX7_anchorOf_122 ?_
            refine g_goto C 134 (by decide) dX7_anchorOf_124 ?_
            refine g_iret C hr rfl hlk dX7_anchorOf_134 ?_
            have hcond : InA σ x ∧ 0 ≤ y.toInt ∧ y.toInt ≤ 12 := ⟨by unfold InA; omega, by omega⟩
            exact ⟨by unfold anchorOfR; rw [if_neg (fun h => h hcond), if_neg (by rw [c45_11]; decide), if_neg (by rw [c45_11]; decide), if_neg (by rw [c45_11]; decide), if_neg (by rw [c45_11]; decide), if_neg (by rw [c45_11]; decide), if_neg (by rw [c45_11]; decide), if_pos c45_11, hzz]; exact if_pos (bp_lt hg1 (Int32.not_le.mp c119)), rfl⟩
        have c45n11 := i_ne c45_11
        by_cases c45_12 : y = 12
        · have c45' := i_eq c45_12
          refine g_tableIn C 135 (by rw [c45_12]; decide) (by rw [c45_12]; decide) (by rw [c45_12] <;> rfl) (by decide) dX7_anchorOf_45 ?_
          refine g_aload_n C 2 rfl dX7_anchorOf_135 ?_
          refine g_iload_n C 3 rfl dX7_anchorOf_136 ?_
          refine g_Vi C [.int (nI z)] 0 7 (by omega) m0 rfl (c_X7_isTrue l D kc N adr cell S Wa Bg As tx (nI hn) (nI L) at' re nu mo sh σ z ⟨m0, m1, m2, m3, m4, m5, m6, m7, m8⟩ (by omega) hS hG (by omega)) (cwV 1 C.2.2.2.2.1 gX7_anchorOf_X7_isTrue rfl rfl rfl (by decide +kernel) ⟨Nat.le_of_ble_eq_true rfl, Nat.le_of_ble_eq_true rfl⟩) rfl rfl (Nat.le_of_ble_eq_true rfl) (Nat.zero_le _) (Nat.zero_le _) dX7_anchorOf_137 (fun v10 cell10 q10 => ?_)
          obtain ⟨rfl, rfl⟩ := q10
          refine g_if_eq C 147 (by decide) dX7_anchorOf_140 (fun c140 => ?_) (fun c140 => ?_)
          · -- taken at 140
            have c140' := bI_f c140
            refine g_iconst C 0 (by decide) dX7_anchorOf_147 ?_
            refine g_iret C hr rfl hlk dX7_anchorOf_148 ?_
            have hcond : InA σ x ∧ 0 ≤ y.toInt ∧ y.toInt ≤ 12 := ⟨by unfold InA; omega, by omega⟩
            exact ⟨by unfold anchorOfR; rw [if_neg (fun h => h hcond), if_neg (by rw [c45_12]; decide), if_neg (by rw [c45_12]; decide), if_neg (by rw [c45_12]; decide), if_neg (by rw [c45_12]; decide), if_neg (by rw [c45_12]; decide), if_neg (by rw [c45_12]; decide), if_neg (by rw [c45_12]; decide), if_pos c45_12, hzz]; exact (congrArg bI (aK3 σ z)).trans (bI_0 c140'), rfl⟩
          · -- not taken at 140
            have c140' := bI_t c140
            refine g_iconst C 1 (by decide) dX7_anchorOf_143 ?_
            refine g_goto C 148 (by decide) dX7_anchorOf_144 ?_
            refine g_iret C hr rfl hlk dX7_anchorOf_148 ?_
            have hcond : InA σ x ∧ 0 ≤ y.toInt ∧ y.toInt ≤ 12 := ⟨by unfold InA; omega, by omega⟩
            exact ⟨by unfold anchorOfR; rw [if_neg (fun h => h hcond), if_neg (by rw [c45_12]; decide), if_neg (by rw [c45_12]; decide), if_neg (by rw [c45_12]; decide), if_neg (by rw [c45_12]; decide), if_neg (by rw [c45_12]; decide), if_neg (by rw [c45_12]; decide), if_neg (by rw [c45_12]; decide), if_pos c45_12, hzz]; exact (congrArg bI (aK3 σ z)).trans (bI_1 c140'), rfl⟩
        have c45n12 := i_ne c45_12
        refine g_tableOut C 149 (by have hl0 : (7 : Int32).toInt = 7 := rfl; have hl1 : (8 : Int32).toInt = 8 := rfl; have hl2 : (9 : Int32).toInt = 9 := rfl; have hl3 : (10 : Int32).toInt = 10 := rfl; have hl4 : (11 : Int32).toInt = 11 := rfl; have hl5 : (12 : Int32).toInt = 12 := rfl; omega) (by decide) dX7_anchorOf_45 ?_
        have ezq : y = nI y.toNatClampNeg := nI_cl (by omega)
        have kzq := cl_toInt (x := y) (by omega)
        generalize hzzq : y.toNatClampNeg = zq at ezq kzq
        refine g_eqlv (lv1 := [(4, .int (bpF σ.1 σ.2.2.2.1 σ.2.2.2.2.2.2.1 (σ.2.2.2.2.2.2.2.2.2 z) (σ.2.2.2.2.2.2.2.1 z) (bpF σ.1 σ.2.2.2.1 σ.2.2.2.2.2.2.1 (σ.2.2.2.2.2.2.2.2.2 z) (σ.2.2.2.2.2.2.2.1 z) (-1)))), (3, .int (bpF σ.1 σ.2.2.2.1 σ.2.2.2.2.2.2.1 (σ.2.2.2.2.2.2.2.2.2 z) (σ.2.2.2.2.2.2.2.1 z) (-1))), (0, .ref (adr 0)), (1, .int (nI z)), (2, .int (nI zq))]) (congrArg (fun z0 : Int32 => ([(4, .int (bpF σ.1 σ.2.2.2.1 σ.2.2.2.2.2.2.1 (σ.2.2.2.2.2.2.2.2.2 z) (σ.2.2.2.2.2.2.2.1 z) (bpF σ.1 σ.2.2.2.1 σ.2.2.2.2.2.2.1 (σ.2.2.2.2.2.2.2.2.2 z) (σ.2.2.2.2.2.2.2.1 z) (-1)))), (3, .int (bpF σ.1 σ.2.2.2.1 σ.2.2.2.2.2.2.1 (σ.2.2.2.2.2.2.2.2.2 z) (σ.2.2.2.2.2.2.2.1 z) (-1))), (0, .ref (adr 0)), (1, .int (nI z)), (2, .int z0)] : List (Nat × Value))) ezq) ?_
        refine g_aload_n C 2 rfl dX7_anchorOf_149 ?_
        refine g_iload_n C 3 rfl dX7_anchorOf_150 ?_
        refine g_iload_n C 4 rfl dX7_anchorOf_151 ?_
        refine g_Vi C [.int (nI z), .int (nI zq)] 0 7 (by omega) m0 rfl (c_X7_an l D kc N adr cell S Wa Bg As tx (nI hn) (nI L) at' re nu mo sh z zq ⟨m0, m1, m2, m3, m4, m5, m6, m7, m8⟩ (by omega) (by omega)) (cwV 2 C.2.2.2.2.1 gX7_anchorOf_X7_an rfl rfl rfl (by decide +kernel) ⟨Nat.le_of_ble_eq_true rfl, Nat.le_of_ble_eq_true rfl⟩) rfl rfl (Nat.le_of_ble_eq_true rfl) (Nat.zero_le _) (Nat.zero_le _) dX7_anchorOf_152 (fun v11 cell11 q11 => ?_)
        obtain ⟨rfl, rfl⟩ := q11
        refine g_Si C [.int (S (48 + 7 * z + zq))] (c_X7_orNone l D kc N adr cell (S (48 + 7 * z + zq))) (va_cwS 1 C.2.2.2.2.1 gX7_anchorOf_X7_orNone rfl rfl rfl (by decide +kernel) ⟨Nat.le_of_ble_eq_true rfl, Nat.le_of_ble_eq_true rfl⟩) rfl rfl (Nat.le_of_ble_eq_true rfl) (Nat.zero_le _) (Nat.zero_le _) dX7_anchorOf_155 (fun v12 cell12 q12 => ?_)
        obtain ⟨rfl, rfl⟩ := q12
        refine g_iret C hr rfl hlk dX7_anchorOf_158 ?_
        have hcond : InA σ x ∧ 0 ≤ y.toInt ∧ y.toInt ≤ 12 := ⟨by unfold InA; omega, by omega⟩
        exact ⟨ao_d hS hG hcond hzz (by omega) (by omega) ezq, rfl⟩
      · -- not taken at 29
        have c29' := i_nle c29
        refine g_iconst C (-1) (by decide) dX7_anchorOf_32 ?_
        refine g_goto C 42 (by decide) dX7_anchorOf_33 ?_
        refine g_istore C [(4, .int (-1)), (3, .int (bpF σ.1 σ.2.2.2.1 σ.2.2.2.2.2.2.1 (σ.2.2.2.2.2.2.2.2.2 z) (σ.2.2.2.2.2.2.2.1 z) (-1))), (0, .ref (adr 0)), (1, .int (nI z)), (2, .int y)] (by decide) rfl dX7_anchorOf_42 ?_
        refine g_iload_n C 4 rfl dX7_anchorOf_44 ?_
        by_cases c45_7 : y = 7
        · have c45' := i_eq c45_7
          refine g_tableIn C 84 (by rw [c45_7]; decide) (by rw [c45_7]; decide) (by rw [c45_7] <;> rfl) (by decide) dX7_anchorOf_45 ?_
          refine g_aload_n C 2 rfl dX7_anchorOf_84 ?_
          refine g_iload_n C 3 rfl dX7_anchorOf_85 ?_
          refine g_Vi C [.int (nI z)] 0 7 (by omega) m0 rfl (c_X7_how l D kc N adr cell S Wa Bg As tx (nI hn) (nI L) at' re nu mo sh σ z ⟨m0, m1, m2, m3, m4, m5, m6, m7, m8⟩ (by omega) hS hG (by omega)) (cwV 1 C.2.2.2.2.1 gX7_anchorOf_X7_how rfl rfl rfl (by decide +kernel) ⟨Nat.le_of_ble_eq_true rfl, Nat.le_of_ble_eq_true rfl⟩) rfl rfl (Nat.le_of_ble_eq_true rfl) (Nat.zero_le _) (Nat.zero_le _) dX7_anchorOf_86 (fun v13 cell13 q13 => ?_)
          obtain ⟨rfl, rfl⟩ := q13
          refine g_iret C hr rfl hlk dX7_anchorOf_89 ?_
          have hcond : InA σ x ∧ 0 ≤ y.toInt ∧ y.toInt ≤ 12 := ⟨by unfold InA; omega, by omega⟩
          exact ⟨by unfold anchorOfR; rw [if_neg (fun h => h hcond), if_neg (by rw [c45_7]; decide), if_neg (by rw [c45_7]; decide), if_pos c45_7, hzz]; rfl, rfl⟩
        have c45n7 := i_ne c45_7
        by_cases c45_8 : y = 8
        · have c45' := i_eq c45_8
          refine g_tableIn C 90 (by rw [c45_8]; decide) (by rw [c45_8]; decide) (by rw [c45_8] <;> rfl) (by decide) dX7_anchorOf_45 ?_
          refine g_iload_n C 1 rfl dX7_anchorOf_90 ?_
          refine g_Si C [.int (bpF σ.1 σ.2.2.2.1 σ.2.2.2.2.2.2.1 (σ.2.2.2.2.2.2.2.2.2 z) (σ.2.2.2.2.2.2.2.1 z) (-1))] (c_X7_orNone l D kc N adr cell (bpF σ.1 σ.2.2.2.1 σ.2.2.2.2.2.2.1 (σ.2.2.2.2.2.2.2.2.2 z) (σ.2.2.2.2.2.2.2.1 z) (-1))) (va_cwS 1 C.2.2.2.2.1 gX7_anchorOf_X7_orNone rfl rfl rfl (by decide +kernel) ⟨Nat.le_of_ble_eq_true rfl, Nat.le_of_ble_eq_true rfl⟩) rfl rfl (Nat.le_of_ble_eq_true rfl) (Nat.zero_le _) (Nat.zero_le _) dX7_anchorOf_91 (fun v14 cell14 q14 => ?_)
          obtain ⟨rfl, rfl⟩ := q14
          refine g_iret C hr rfl hlk dX7_anchorOf_94 ?_
          have hcond : InA σ x ∧ 0 ≤ y.toInt ∧ y.toInt ≤ 12 := ⟨by unfold InA; omega, by omega⟩
          exact ⟨by unfold anchorOfR; rw [if_neg (fun h => h hcond), if_neg (by rw [c45_8]; decide), if_neg (by rw [c45_8]; decide), if_neg (by rw [c45_8]; decide), if_pos c45_8, hzz]; exact orN_of (bp_ok hg1), rfl⟩
        have c45n8 := i_ne c45_8
        by_cases c45_9 : y = 9
        · have c45' := i_eq c45_9
          refine g_tableIn C 95 (by rw [c45_9]; decide) (by rw [c45_9]; decide) (by rw [c45_9] <;> rfl) (by decide) dX7_anchorOf_45 ?_
          refine g_iload_n C 1 rfl dX7_anchorOf_95 ?_
          refine g_if_ge C 104 (by decide) dX7_anchorOf_96 (fun c96 => ?_) (fun c96 => ?_)
          · -- taken at 96
            have c96' := i_le c96
            refine g_aload_n C 2 rfl dX7_anchorOf_104 ?_
            refine g_iload_n C 3 rfl dX7_anchorOf_105 ?_
            refine g_iload_n C 1 rfl dX7_anchorOf_106 ?_
            refine g_Vi C [.int (nI z), .int (bpF σ.1 σ.2.2.2.1 σ.2.2.2.2.2.2.1 (σ.2.2.2.2.2.2.2.2.2 z) (σ.2.2.2.2.2.2.2.1 z) (-1))] 0 7 (by omega) m0 rfl (c_X7_scoreAt l D kc N adr cell S Wa Bg As tx (nI hn) (nI L) at' re nu mo sh σ z (bpF σ.1 σ.2.2.2.1 σ.2.2.2.2.2.2.1 (σ.2.2.2.2.2.2.2.2.2 z) (σ.2.2.2.2.2.2.2.1 z) (-1)) ⟨m0, m1, m2, m3, m4, m5, m6, m7, m8⟩ (by omega) hS hG (by omega)) (cwV 2 C.2.2.2.2.1 gX7_anchorOf_X7_scoreAt rfl rfl rfl (by decide +kernel) ⟨Nat.le_of_ble_eq_true rfl, Nat.le_of_ble_eq_true rfl⟩) rfl rfl (Nat.le_of_ble_eq_true rfl) (Nat.zero_le _) (Nat.zero_le _) dX7_anchorOf_107 (fun v15 cell15 q15 => ?_)
            obtain ⟨rfl, rfl⟩ := q15
            refine g_iret C hr rfl hlk dX7_anchorOf_110 ?_
            have hcond : InA σ x ∧ 0 ≤ y.toInt ∧ y.toInt ≤ 12 := ⟨by unfold InA; omega, by omega⟩
            exact ⟨by unfold anchorOfR; rw [if_neg (fun h => h hcond), if_neg (by rw [c45_9]; decide), if_neg (by rw [c45_9]; decide), if_neg (by rw [c45_9]; decide), if_neg (by rw [c45_9]; decide), if_pos c45_9, hzz]; exact if_neg (bp_nlt (Int32.not_lt.mpr c96)), rfl⟩
          · -- not taken at 96
            have c96' := i_nle c96
            refine g_ldc C (-1000004) k100 dX7_anchorOf_99 ?_
            refine g_goto C 110 (by decide) dX7_anchorOf_101 ?_
            refine g_iret C hr rfl hlk dX7_anchorOf_110 ?_
            have hcond : InA σ x ∧ 0 ≤ y.toInt ∧ y.toInt ≤ 12 := ⟨by unfold InA; omega, by omega⟩
            exact ⟨by unfold anchorOfR; rw [if_neg (fun h => h hcond), if_neg (by rw [c45_9]; decide), if_neg (by rw [c45_9]; decide), if_neg (by rw [c45_9]; decide), if_neg (by rw [c45_9]; decide), if_pos c45_9, hzz]; exact if_pos (bp_lt hg1 (Int32.not_le.mp c96)), rfl⟩
        have c45n9 := i_ne c45_9
        by_cases c45_10 : y = 10
        · have c45' := i_eq c45_10
          refine g_tableIn C 111 (by rw [c45_10]; decide) (by rw [c45_10]; decide) (by rw [c45_10] <;> rfl) (by decide) dX7_anchorOf_45 ?_
          refine g_iload C 0 rfl dX7_anchorOf_111 ?_
          refine g_Si C [.int (-1)] (c_X7_orNone l D kc N adr cell (-1)) (va_cwS 1 C.2.2.2.2.1 gX7_anchorOf_X7_orNone rfl rfl rfl (by decide +kernel) ⟨Nat.le_of_ble_eq_true rfl, Nat.le_of_ble_eq_true rfl⟩) rfl rfl (Nat.le_of_ble_eq_true rfl) (Nat.zero_le _) (Nat.zero_le _) dX7_anchorOf_113 (fun v16 cell16 q16 => ?_)
          obtain ⟨rfl, rfl⟩ := q16
          refine g_iret C hr rfl hlk dX7_anchorOf_116 ?_
          have hcond : InA σ x ∧ 0 ≤ y.toInt ∧ y.toInt ≤ 12 := ⟨by unfold InA; omega, by omega⟩
          have hb : aB σ z (-1) = -1 := bp_lt hg1 (Int32.not_le.mp c29)
          exact ⟨by unfold anchorOfR; rw [if_neg (fun h => h hcond), if_neg (by rw [c45_10]; decide), if_neg (by rw [c45_10]; decide), if_neg (by rw [c45_10]; decide), if_neg (by rw [c45_10]; decide), if_neg (by rw [c45_10]; decide), if_pos c45_10, hzz]; rw [hb, hb]; decide, rfl⟩
        have c45n10 := i_ne c45_10
        by_cases c45_11 : y = 11
        · have c45' := i_eq c45_11
          refine g_tableIn C 117 (by rw [c45_11]; decide) (by rw [c45_11]; decide) (by rw [c45_11] <;> rfl) (by decide) dX7_anchorOf_45 ?_
          refine g_iload C 0 rfl dX7_anchorOf_117 ?_
          refine g_if_ge C 127 (by decide) dX7_anchorOf_119 (fun c119 => ?_) (fun c119 => ?_)
          · -- taken at 119
            have c119' := i_le c119
            exact absurd c119 (by decide) --done
          · -- not taken at 119
            have c119' := i_nle c119
            refine g_ldc C (-1000004) k100 dX7_anchorOf_122 ?_
            refine g_goto C 134 (by decide) dX7_anchorOf_124 ?_
            refine g_iret C hr rfl hlk dX7_anchorOf_134 ?_
            have hcond : InA σ x ∧ 0 ≤ y.toInt ∧ y.toInt ≤ 12 := ⟨by unfold InA; omega, by omega⟩
            have hb : aB σ z (-1) = -1 := bp_lt hg1 (Int32.not_le.mp c29)
            exact ⟨by unfold anchorOfR; rw [if_neg (fun h => h hcond), if_neg (by rw [c45_11]; decide), if_neg (by rw [c45_11]; decide), if_neg (by rw [c45_11]; decide), if_neg (by rw [c45_11]; decide), if_neg (by rw [c45_11]; decide), if_neg (by rw [c45_11]; decide), if_pos c45_11, hzz]; rw [hb, hb]; exact if_pos rfl, rfl⟩
        have c45n11 := i_ne c45_11
        by_cases c45_12 : y = 12
        · have c45' := i_eq c45_12
          refine g_tableIn C 135 (by rw [c45_12]; decide) (by rw [c45_12]; decide) (by rw [c45_12] <;> rfl) (by decide) dX7_anchorOf_45 ?_
          refine g_aload_n C 2 rfl dX7_anchorOf_135 ?_
          refine g_iload_n C 3 rfl dX7_anchorOf_136 ?_
          refine g_Vi C [.int (nI z)] 0 7 (by omega) m0 rfl (c_X7_isTrue l D kc N adr cell S Wa Bg As tx (nI hn) (nI L) at' re nu mo sh σ z ⟨m0, m1, m2, m3, m4, m5, m6, m7, m8⟩ (by omega) hS hG (by omega)) (cwV 1 C.2.2.2.2.1 gX7_anchorOf_X7_isTrue rfl rfl rfl (by decide +kernel) ⟨Nat.le_of_ble_eq_true rfl, Nat.le_of_ble_eq_true rfl⟩) rfl rfl (Nat.le_of_ble_eq_true rfl) (Nat.zero_le _) (Nat.zero_le _) dX7_anchorOf_137 (fun v17 cell17 q17 => ?_)
          obtain ⟨rfl, rfl⟩ := q17
          refine g_if_eq C 147 (by decide) dX7_anchorOf_140 (fun c140 => ?_) (fun c140 => ?_)
          · -- taken at 140
            have c140' := bI_f c140
            refine g_iconst C 0 (by decide) dX7_anchorOf_147 ?_
            refine g_iret C hr rfl hlk dX7_anchorOf_148 ?_
            have hcond : InA σ x ∧ 0 ≤ y.toInt ∧ y.toInt ≤ 12 := ⟨by unfold InA; omega, by omega⟩
            exact ⟨by unfold anchorOfR; rw [if_neg (fun h => h hcond), if_neg (by rw [c45_12]; decide), if_neg (by rw [c45_12]; decide), if_neg (by rw [c45_12]; decide), if_neg (by rw [c45_12]; decide), if_neg (by rw [c45_12]; decide), if_neg (by rw [c45_12]; decide), if_neg (by rw [c45_12]; decide), if_pos c45_12, hzz]; exact (congrArg bI (aK3 σ z)).trans (bI_0 c140'), rfl⟩
          · -- not taken at 140
            have c140' := bI_t c140
            refine g_iconst C 1 (by decide) dX7_anchorOf_143 ?_
            refine g_goto C 148 (by decide) dX7_anchorOf_144 ?_
            refine g_iret C hr rfl hlk dX7_anchorOf_148 ?_
            have hcond : InA σ x ∧ 0 ≤ y.toInt ∧ y.toInt ≤ 12 := ⟨by unfold InA; omega, by omega⟩
            exact ⟨by unfold anchorOfR; rw [if_neg (fun h => h hcond), if_neg (by rw [c45_12]; decide), if_neg (by rw [c45_12]; decide), if_neg (by rw [c45_12]; decide), if_neg (by rw [c45_12]; decide), if_neg (by rw [c45_12]; decide), if_neg (by rw [c45_12]; decide), if_neg (by rw [c45_12]; decide), if_pos c45_12, hzz]; exact (congrArg bI (aK3 σ z)).trans (bI_1 c140'), rfl⟩
        have c45n12 := i_ne c45_12
        refine g_tableOut C 149 (by have hl0 : (7 : Int32).toInt = 7 := rfl; have hl1 : (8 : Int32).toInt = 8 := rfl; have hl2 : (9 : Int32).toInt = 9 := rfl; have hl3 : (10 : Int32).toInt = 10 := rfl; have hl4 : (11 : Int32).toInt = 11 := rfl; have hl5 : (12 : Int32).toInt = 12 := rfl; omega) (by decide) dX7_anchorOf_45 ?_
        have ezq : y = nI y.toNatClampNeg := nI_cl (by omega)
        have kzq := cl_toInt (x := y) (by omega)
        generalize hzzq : y.toNatClampNeg = zq at ezq kzq
        refine g_eqlv (lv1 := [(4, .int (-1)), (3, .int (bpF σ.1 σ.2.2.2.1 σ.2.2.2.2.2.2.1 (σ.2.2.2.2.2.2.2.2.2 z) (σ.2.2.2.2.2.2.2.1 z) (-1))), (0, .ref (adr 0)), (1, .int (nI z)), (2, .int (nI zq))]) (congrArg (fun z0 : Int32 => ([(4, .int (-1)), (3, .int (bpF σ.1 σ.2.2.2.1 σ.2.2.2.2.2.2.1 (σ.2.2.2.2.2.2.2.2.2 z) (σ.2.2.2.2.2.2.2.1 z) (-1))), (0, .ref (adr 0)), (1, .int (nI z)), (2, .int z0)] : List (Nat × Value))) ezq) ?_
        refine g_aload_n C 2 rfl dX7_anchorOf_149 ?_
        refine g_iload_n C 3 rfl dX7_anchorOf_150 ?_
        refine g_iload_n C 4 rfl dX7_anchorOf_151 ?_
        refine g_Vi C [.int (nI z), .int (nI zq)] 0 7 (by omega) m0 rfl (c_X7_an l D kc N adr cell S Wa Bg As tx (nI hn) (nI L) at' re nu mo sh z zq ⟨m0, m1, m2, m3, m4, m5, m6, m7, m8⟩ (by omega) (by omega)) (cwV 2 C.2.2.2.2.1 gX7_anchorOf_X7_an rfl rfl rfl (by decide +kernel) ⟨Nat.le_of_ble_eq_true rfl, Nat.le_of_ble_eq_true rfl⟩) rfl rfl (Nat.le_of_ble_eq_true rfl) (Nat.zero_le _) (Nat.zero_le _) dX7_anchorOf_152 (fun v18 cell18 q18 => ?_)
        obtain ⟨rfl, rfl⟩ := q18
        refine g_Si C [.int (S (48 + 7 * z + zq))] (c_X7_orNone l D kc N adr cell (S (48 + 7 * z + zq))) (va_cwS 1 C.2.2.2.2.1 gX7_anchorOf_X7_orNone rfl rfl rfl (by decide +kernel) ⟨Nat.le_of_ble_eq_true rfl, Nat.le_of_ble_eq_true rfl⟩) rfl rfl (Nat.le_of_ble_eq_true rfl) (Nat.zero_le _) (Nat.zero_le _) dX7_anchorOf_155 (fun v19 cell19 q19 => ?_)
        obtain ⟨rfl, rfl⟩ := q19
        refine g_iret C hr rfl hlk dX7_anchorOf_158 ?_
        have hcond : InA σ x ∧ 0 ≤ y.toInt ∧ y.toInt ≤ 12 := ⟨by unfold InA; omega, by omega⟩
        exact ⟨ao_d hS hG hcond hzz (by omega) (by omega) ezq, rfl⟩
    · -- not taken at 15
      have c15' := bI_f c15
      refine g_ldc C (-1000001) k43 dX7_anchorOf_18 ?_
      refine g_iret C hr rfl hlk dX7_anchorOf_20 ?_
      exact ⟨by unfold anchorOfR; exact if_pos (fun h => by have h1 := h.1; have h2 := h.2; unfold InA at h1; omega), rfl⟩
set_option maxRecDepth 100000 in
set_option maxHeartbeats 4000000 in
theorem c_X7_wordAt (l : Launch) (D : va_G) (kc : Nat → ClassId) (N : Nat) (adr : Nat → Nat) (cell : Nat → va_E) (σ : SD) (hn : Nat) (hi : Nat → SD) (L : Nat) (ch : Nat → Int32) (x : Int32) (hM : MAt cell adr kc σ hn hi L ch) (hG : Good σ) (hN : 9 ≤ N) : MI l yX7_wordAt wsX7_wordAt ({ frames := 2, cells := 0, slots := 0, locals := 43 }) D kc N adr cell [.ref (adr 0), .int x] (fun (v : Int32) (cell1 : Nat → va_E) => wordAtR σ x = v ∧ cell = cell1) := by
  refine met_i (cc := cX7_wordAt) (maxL := 2) (ret := (some .int)) (by decide) rfl (Nat.le_of_ble_eq_true rfl) (lv := [(0, .ref (adr 0)), (1, .int x)]) rfl ?_
  intro Pg Ev Sv Mi args below Me Cd Ar C hr hlk hnm
  have in7 : ∀ w ∈ u_ws RX7 TX7 12, w ∈ wsX7_wordAt := by decide +kernel
  have k100 := C.2.2.2.2.1 (.constant RX7 100 (-1000004)) (by decide +kernel)
  have f7 := C.2.2.2.2.1 (.fieldLink RX7 7 "WordAnchorsModel" "s" "[I") (by decide +kernel)
  have k43 := C.2.2.2.2.1 (.constant RX7 43 (-1000001)) (by decide +kernel)
  have hM0 := hM
  obtain ⟨S, Wa, Bg, As, tx, at', re, nu, mo, sh, hB, hS, hH, htx, hh4, hL60⟩ := hM
  have hB0 := hB
  obtain ⟨m0, m1, m2, m3, m4, m5, m6, m7, m8⟩ := hB
  have hg1 := hG.1
  have hg2 := hG.2.1
  have e0 := hS.1
  have e1 := hS.2.1
  have litm1000004 : ((-1000004) : Int32).toInt = -1000004 := rfl
  have litm1000001 : ((-1000001) : Int32).toInt = -1000001 := rfl
  have litm1 : ((-1) : Int32).toInt = -1 := rfl
  have lit0 : (0 : Int32).toInt = 0 := rfl
  have lit1 : (1 : Int32).toInt = 1 := rfl
  have lit8 : (8 : Int32).toInt = 8 := rfl
  have tn___1 : (nI σ.1).toInt = ((σ.1 : Nat) : Int) := nI_toInt (by omega)
  have tn___2_1 : (nI σ.2.1).toInt = ((σ.2.1 : Nat) : Int) := nI_toInt (by omega)
  have tn_hn : (nI hn).toInt = ((hn : Nat) : Int) := nI_toInt (by omega)
  have tn_L : (nI L).toInt = ((L : Nat) : Int) := nI_toInt (by omega)
  refine g_iload_n C 1 rfl dX7_wordAt_0 ?_
  refine g_if_ge C 7 (by decide) dX7_wordAt_1 (fun c1 => ?_) (fun c1 => ?_)
  · -- taken at 1
    have c1' := i_le c1
    refine g_aload_n C 0 rfl dX7_wordAt_7 ?_
    refine g_iload_n C 1 rfl dX7_wordAt_8 ?_
    refine g_Vi C [.int x] 0 7 (by omega) m0 rfl (c_X7_isPlace l D kc N adr cell S Wa Bg As tx (nI hn) (nI L) at' re nu mo sh σ x ⟨m0, m1, m2, m3, m4, m5, m6, m7, m8⟩ (by omega) hS hG.1 hG.2.1) (cwV 1 C.2.2.2.2.1 gX7_wordAt_X7_isPlace rfl rfl rfl (by decide +kernel) ⟨Nat.le_of_ble_eq_true rfl, Nat.le_of_ble_eq_true rfl⟩) rfl rfl (Nat.le_of_ble_eq_true rfl) (Nat.zero_le _) (Nat.zero_le _) dX7_wordAt_9 (fun v1 cell1 q1 => ?_)
    obtain ⟨rfl, rfl⟩ := q1
    refine g_if_eq C 27 (by decide) dX7_wordAt_12 (fun c12 => ?_) (fun c12 => ?_)
    · -- taken at 12
      have c12' := bI_f c12
      refine g_ldc C (-1000004) k100 dX7_wordAt_27 ?_
      refine g_iret C hr rfl hlk dX7_wordAt_29 ?_
      exact ⟨by unfold wordAtR; rw [if_neg (by omega), if_neg (by omega)], rfl⟩
    · -- not taken at 12
      have c12' := bI_t c12
      have ez : x = nI x.toNatClampNeg := nI_cl (by omega)
      have kz := cl_toInt (x := x) (by omega)
      generalize hzz : x.toNatClampNeg = z at ez kz
      refine g_eqlv (lv1 := [(0, .ref (adr 0)), (1, .int (nI z))]) (congrArg (fun z0 : Int32 => ([(0, .ref (adr 0)), (1, .int z0)] : List (Nat × Value))) ez) ?_
      refine g_aload_n C 0 rfl dX7_wordAt_15 ?_
      refine g_get C 0 7 0 (by omega) m0 rfl in7 (by decide) f7 (fun _ h9 => h9) rfl dX7_wordAt_16 ?_
      refine g_bipush C 8 (by decide) dX7_wordAt_19 ?_
      refine g_iload_n C 1 rfl dX7_wordAt_21 ?_
      refine g_iadd C dX7_wordAt_22 ?_
      refine g_eqst (st1 := ([.int (nI (8 + z)), .ref (adr 1)] : List Value)) (congrArg (fun z0 : Int32 => (([.int z0, .ref (adr 1)] : List Value))) (mI_add 8 z)) ?_
      refine g_iald C 1 (by omega) m1 (vp_in_nI (by omega) (by omega)) dX7_wordAt_23 ?_
      refine g_eqst (show ([.int (S (nI (8 + z)).toNatClampNeg)] : List Value) = ([.int (S (8 + z))] : List Value) from by rw [nI_clamp (by omega)]) ?_
      refine g_goto C 29 (by decide) dX7_wordAt_24 ?_
      refine g_iret C hr rfl hlk dX7_wordAt_29 ?_
      exact ⟨by unfold wordAtR; rw [if_neg (by omega), if_pos (by omega), hzz]; exact (hS.2.2.2.2.1 z (by omega)).symm, rfl⟩
  · -- not taken at 1
    have c1' := i_nle c1
    refine g_ldc C (-1000001) k43 dX7_wordAt_4 ?_
    refine g_iret C hr rfl hlk dX7_wordAt_6 ?_
    exact ⟨by unfold wordAtR; exact if_pos (by omega), rfl⟩
set_option maxRecDepth 100000 in
set_option maxHeartbeats 4000000 in
theorem c_X7_unlike (l : Launch) (D : va_G) (kc : Nat → ClassId) (N : Nat) (adr : Nat → Nat) (cell : Nat → va_E) (S Wa Bg As tx : Nat → Int32) (st ty at' re : Int32) (nu mo sh : Nat → Int32) (σ : SD)  (hB : MB cell adr kc S Wa Bg As st tx ty at' re nu mo sh) (hN : 9 ≤ N) (hS : MS S σ) (hG : Good σ) : MI l yX7_unlike wsX7_unlike ({ frames := 0, cells := 0, slots := 0, locals := 0 }) D kc N adr cell [.ref (adr 0)] (fun (v : Int32) (cell1 : Nat → va_E) => nI (cnt (fun p => !seenF σ.2.2.2.1 (σ.2.2.2.1 p) p) σ.1) = v ∧ cell = cell1) := by
  refine met_i (cc := cX7_unlike) (maxL := 5) (ret := (some .int)) (by decide) rfl (Nat.le_of_ble_eq_true rfl) (lv := [(0, .ref (adr 0))]) rfl ?_
  intro Pg Ev Sv Mi args below Me Cd Ar C hr hlk hnm
  have in7 : ∀ w ∈ u_ws RX7 TX7 12, w ∈ wsX7_unlike := by decide +kernel
  have f7 := C.2.2.2.2.1 (.fieldLink RX7 7 "WordAnchorsModel" "s" "[I") (by decide +kernel)
  have hB0 := hB
  obtain ⟨m0, m1, m2, m3, m4, m5, m6, m7, m8⟩ := hB
  have hg1 := hG.1
  have hg2 := hG.2.1
  have e0 := hS.1
  have e1 := hS.2.1
  have litm1 : ((-1) : Int32).toInt = -1 := rfl
  have lit0 : (0 : Int32).toInt = 0 := rfl
  have lit1 : (1 : Int32).toInt = 1 := rfl
  have lit8 : (8 : Int32).toInt = 8 := rfl
  have tn___1 : (nI σ.1).toInt = ((σ.1 : Nat) : Int) := nI_toInt (by omega)
  refine g_iconst C 0 (by decide) dX7_unlike_0 ?_
  refine g_istore_n C [(1, .int 0), (0, .ref (adr 0))] (by decide) rfl dX7_unlike_1 ?_
  refine g_iconst C 0 (by decide) dX7_unlike_2 ?_
  refine g_istore_n C [(2, .int 0), (1, .int 0), (0, .ref (adr 0))] (by decide) rfl dX7_unlike_3 ?_
  have L4 : ∀ (fu i : Nat) , i ≤ σ.1 → σ.1 < i + fu → G Pg l Ev (headSpec wsX7_unlike { frames := 0, cells := 0, slots := 0, locals := 0 }).room Sv Mi args below Me Cd D N adr Ar Sv.heap 5 0 0 (MQ below (va_Qi (fun (v : Int32) (cell1 : Nat → va_E) => nI (cnt (fun p => !seenF σ.2.2.2.1 (σ.2.2.2.1 p) p) σ.1) = v ∧ cell = cell1) (fun (cell1 : Nat → va_E) (t : State) => va_P D vwCl (wld N adr cell1) t.heap) Ar) args Sv 0 0 Ar) cell 4 [(0, .ref (adr 0)), (1, .int (nI (cnt (fun p => !seenF σ.2.2.2.1 (σ.2.2.2.1 p) p) i))), (2, .int (nI i))] ([] : List Value) := by
    intro fu
    induction fu with
    | zero => intro i  hle hfu; exact absurd hfu (by omega)
    | succ fu ih =>
      intro i  hle4 hfu4  
      have tn_i : (nI i).toInt = ((i : Nat) : Int) := nI_toInt (by omega)
      refine g_iload_n C 2 rfl dX7_unlike_4 ?_
      refine g_aload_n C 0 rfl dX7_unlike_5 ?_
      refine g_get C 0 7 0 (by omega) m0 rfl in7 (by decide) f7 (fun _ h9 => h9) rfl dX7_unlike_6 ?_
      refine g_iconst C 0 (by decide) dX7_unlike_9 ?_
      refine g_iald C 1 (by omega) m1 (vp_in_iff.mpr (by omega)) dX7_unlike_10 ?_
      refine g_eqst (st1 := ([.int (S 0), .int (nI i)] : List Value)) rfl ?_
      refine g_eqst (show ([.int (S 0), .int (nI i)] : List Value) = ([.int (nI σ.1), .int (nI i)] : List Value) from by rw [e0]) ?_
      refine g_icmp_ge C 81 (by decide) dX7_unlike_11 (fun c11 => ?_) (fun c11 => ?_)
      · -- taken at 11
        have c11' := i_le c11
        obtain rfl : σ.1 = i := by omega
        refine g_iload_n C 1 rfl dX7_unlike_81 ?_
        refine g_iret C hr rfl hlk dX7_unlike_82 ?_
        exact ⟨rfl, rfl⟩
      · -- not taken at 11
        have c11' := i_nle c11
        refine g_iconst C 1 (by decide) dX7_unlike_14 ?_
        refine g_istore_n C [(3, .int 1), (0, .ref (adr 0)), (1, .int (nI (cnt (fun p => !seenF σ.2.2.2.1 (σ.2.2.2.1 p) p) i))), (2, .int (nI i))] (by decide) rfl dX7_unlike_15 ?_
        refine g_iconst C 0 (by decide) dX7_unlike_16 ?_
        refine g_istore C [(4, .int 0), (3, .int 1), (0, .ref (adr 0)), (1, .int (nI (cnt (fun p => !seenF σ.2.2.2.1 (σ.2.2.2.1 p) p) i))), (2, .int (nI i))] (by decide) rfl dX7_unlike_17 ?_
        have L19 : ∀ (fu j : Nat) , j ≤ i → i < j + fu → G Pg l Ev (headSpec wsX7_unlike { frames := 0, cells := 0, slots := 0, locals := 0 }).room Sv Mi args below Me Cd D N adr Ar Sv.heap 5 0 0 (MQ below (va_Qi (fun (v : Int32) (cell1 : Nat → va_E) => nI (cnt (fun p => !seenF σ.2.2.2.1 (σ.2.2.2.1 p) p) σ.1) = v ∧ cell = cell1) (fun (cell1 : Nat → va_E) (t : State) => va_P D vwCl (wld N adr cell1) t.heap) Ar) args Sv 0 0 Ar) cell 19 [(0, .ref (adr 0)), (1, .int (nI (cnt (fun p => !seenF σ.2.2.2.1 (σ.2.2.2.1 p) p) i))), (2, .int (nI i)), (3, .int (bI (!seenF σ.2.2.2.1 (σ.2.2.2.1 i) j))), (4, .int (nI j))] ([] : List Value) := by
          intro fu
          induction fu with
          | zero => intro j  hle hfu; exact absurd hfu (by omega)
          | succ fu ih19 =>
            intro j  hle19 hfu19  
            have tn_j : (nI j).toInt = ((j : Nat) : Int) := nI_toInt (by omega)
            refine g_iload C 4 rfl dX7_unlike_19 ?_
            refine g_iload_n C 2 rfl dX7_unlike_21 ?_
            refine g_icmp_ge C 63 (by decide) dX7_unlike_22 (fun c22 => ?_) (fun c22 => ?_)
            · -- taken at 22
              have c22' := i_le c22
              obtain rfl : i = j := by omega
              refine g_iload_n C 1 rfl dX7_unlike_63 ?_
              refine g_iload_n C 3 rfl dX7_unlike_64 ?_
              refine g_if_eq C 72 (by decide) dX7_unlike_65 (fun c65 => ?_) (fun c65 => ?_)
              · -- taken at 65
                have c65' := bI_bf c65
                refine g_iconst C 0 (by decide) dX7_unlike_72 ?_
                refine g_iadd C dX7_unlike_73 ?_
                refine g_eqst (st1 := ([.int (nI (cnt (fun p => !seenF σ.2.2.2.1 (σ.2.2.2.1 p) p) i + 0))] : List Value)) (congrArg (fun z0 : Int32 => (([.int z0] : List Value))) (mI_add (cnt (fun p => !seenF σ.2.2.2.1 (σ.2.2.2.1 p) p) i) 0)) ?_
                refine g_istore_n C [(1, .int (nI (cnt (fun p => !seenF σ.2.2.2.1 (σ.2.2.2.1 p) p) i + 0))), (0, .ref (adr 0)), (2, .int (nI i)), (3, .int (bI (!seenF σ.2.2.2.1 (σ.2.2.2.1 i) i))), (4, .int (nI i))] (by decide) rfl dX7_unlike_74 ?_
                refine g_iinc C 2 [(2, .int (nI (i + 1))), (1, .int (nI (cnt (fun p => !seenF σ.2.2.2.1 (σ.2.2.2.1 p) p) i + 0))), (0, .ref (adr 0)), (3, .int (bI (!seenF σ.2.2.2.1 (σ.2.2.2.1 i) i))), (4, .int (nI i))] rfl (iinc_nI i) (by decide) rfl dX7_unlike_75 ?_
                refine g_goto C 4 (by decide) dX7_unlike_78 ?_
                have hbo : nI (cnt (fun p => !seenF σ.2.2.2.1 (σ.2.2.2.1 p) p) i + 0) = nI (cnt (fun p => !seenF σ.2.2.2.1 (σ.2.2.2.1 p) p) (i + 1)) := cnt_no (by rw [c65']; decide)
                refine g_sub [2, 1, 0] rfl ?_
                have ev_2 : nI (cnt (fun p => !seenF σ.2.2.2.1 (σ.2.2.2.1 p) p) i + 0) = nI (cnt (fun p => !seenF σ.2.2.2.1 (σ.2.2.2.1 p) p) (i + 1)) := by exact hbo
                refine g_eqlv (lv1 := [(0, .ref (adr 0)), (1, .int (nI (cnt (fun p => !seenF σ.2.2.2.1 (σ.2.2.2.1 p) p) (i + 1)))), (2, .int (nI (i + 1)))]) (congrArg (fun z0 : Int32 => ([(0, .ref (adr 0)), (1, .int z0), (2, .int (nI (i + 1)))] : List (Nat × Value))) ev_2) ?_
                exact ih (i + 1) (by omega) (by omega) 
              · -- not taken at 65
                have c65' := bI_bt c65
                refine g_iconst C 1 (by decide) dX7_unlike_68 ?_
                refine g_goto C 73 (by decide) dX7_unlike_69 ?_
                refine g_iadd C dX7_unlike_73 ?_
                refine g_eqst (st1 := ([.int (nI (cnt (fun p => !seenF σ.2.2.2.1 (σ.2.2.2.1 p) p) i + 1))] : List Value)) (congrArg (fun z0 : Int32 => (([.int z0] : List Value))) (mI_add (cnt (fun p => !seenF σ.2.2.2.1 (σ.2.2.2.1 p) p) i) 1)) ?_
                refine g_istore_n C [(1, .int (nI (cnt (fun p => !seenF σ.2.2.2.1 (σ.2.2.2.1 p) p) i + 1))), (0, .ref (adr 0)), (2, .int (nI i)), (3, .int (bI (!seenF σ.2.2.2.1 (σ.2.2.2.1 i) i))), (4, .int (nI i))] (by decide) rfl dX7_unlike_74 ?_
                refine g_iinc C 2 [(2, .int (nI (i + 1))), (1, .int (nI (cnt (fun p => !seenF σ.2.2.2.1 (σ.2.2.2.1 p) p) i + 1))), (0, .ref (adr 0)), (3, .int (bI (!seenF σ.2.2.2.1 (σ.2.2.2.1 i) i))), (4, .int (nI i))] rfl (iinc_nI i) (by decide) rfl dX7_unlike_75 ?_
                refine g_goto C 4 (by decide) dX7_unlike_78 ?_
                have hbo : nI (cnt (fun p => !seenF σ.2.2.2.1 (σ.2.2.2.1 p) p) i + 1) = nI (cnt (fun p => !seenF σ.2.2.2.1 (σ.2.2.2.1 p) p) (i + 1)) := cnt_yes c65'
                refine g_sub [2, 1, 0] rfl ?_
                have ev_3 : nI (cnt (fun p => !seenF σ.2.2.2.1 (σ.2.2.2.1 p) p) i + 1) = nI (cnt (fun p => !seenF σ.2.2.2.1 (σ.2.2.2.1 p) p) (i + 1)) := by exact hbo
                refine g_eqlv (lv1 := [(0, .ref (adr 0)), (1, .int (nI (cnt (fun p => !seenF σ.2.2.2.1 (σ.2.2.2.1 p) p) (i + 1)))), (2, .int (nI (i + 1)))]) (congrArg (fun z0 : Int32 => ([(0, .ref (adr 0)), (1, .int z0), (2, .int (nI (i + 1)))] : List (Nat × Value))) ev_3) ?_
                exact ih (i + 1) (by omega) (by omega) 
            · -- not taken at 22
              have c22' := i_nle c22
              refine g_iload_n C 3 rfl dX7_unlike_25 ?_
              refine g_if_eq C 55 (by decide) dX7_unlike_26 (fun c26 => ?_) (fun c26 => ?_)
              · -- taken at 26
                have c26' := bI_bf c26
                refine g_iconst C 0 (by decide) dX7_unlike_55 ?_
                refine g_istore_n C [(3, .int 0), (0, .ref (adr 0)), (1, .int (nI (cnt (fun p => !seenF σ.2.2.2.1 (σ.2.2.2.1 p) p) i))), (2, .int (nI i)), (4, .int (nI j))] (by decide) rfl dX7_unlike_56 ?_
                refine g_iinc C 4 [(4, .int (nI (j + 1))), (3, .int 0), (0, .ref (adr 0)), (1, .int (nI (cnt (fun p => !seenF σ.2.2.2.1 (σ.2.2.2.1 p) p) i))), (2, .int (nI i))] rfl (iinc_nI j) (by decide) rfl dX7_unlike_57 ?_
                refine g_goto C 19 (by decide) dX7_unlike_60 ?_
                have hb := sn_a c26'
                refine g_sub [2, 3, 4, 1, 0] rfl ?_
                have ev_4 : 0 = bI (!seenF σ.2.2.2.1 (σ.2.2.2.1 i) (j + 1)) := by exact hb
                refine g_eqlv (lv1 := [(0, .ref (adr 0)), (1, .int (nI (cnt (fun p => !seenF σ.2.2.2.1 (σ.2.2.2.1 p) p) i))), (2, .int (nI i)), (3, .int (bI (!seenF σ.2.2.2.1 (σ.2.2.2.1 i) (j + 1)))), (4, .int (nI (j + 1)))]) (congrArg (fun z0 : Int32 => ([(0, .ref (adr 0)), (1, .int (nI (cnt (fun p => !seenF σ.2.2.2.1 (σ.2.2.2.1 p) p) i))), (2, .int (nI i)), (3, .int z0), (4, .int (nI (j + 1)))] : List (Nat × Value))) ev_4) ?_
                exact ih19 (j + 1) (by omega) (by omega) 
              · -- not taken at 26
                have c26' := bI_bt c26
                refine g_aload_n C 0 rfl dX7_unlike_29 ?_
                refine g_get C 0 7 0 (by omega) m0 rfl in7 (by decide) f7 (fun _ h9 => h9) rfl dX7_unlike_30 ?_
                refine g_bipush C 8 (by decide) dX7_unlike_33 ?_
                refine g_iload C 4 rfl dX7_unlike_35 ?_
                refine g_iadd C dX7_unlike_37 ?_
                refine g_eqst (st1 := ([.int (nI (8 + j)), .ref (adr 1)] : List Value)) (congrArg (fun z0 : Int32 => (([.int z0, .ref (adr 1)] : List Value))) (mI_add 8 j)) ?_
                refine g_iald C 1 (by omega) m1 (vp_in_nI (by omega) (by omega)) dX7_unlike_38 ?_
                refine g_eqst (show ([.int (S (nI (8 + j)).toNatClampNeg)] : List Value) = ([.int (S (8 + j))] : List Value) from by rw [nI_clamp (by omega)]) ?_
                refine g_aload_n C 0 rfl dX7_unlike_39 ?_
                refine g_get C 0 7 0 (by omega) m0 rfl in7 (by decide) f7 (fun _ h9 => h9) rfl dX7_unlike_40 ?_
                refine g_bipush C 8 (by decide) dX7_unlike_43 ?_
                refine g_iload_n C 2 rfl dX7_unlike_45 ?_
                refine g_iadd C dX7_unlike_46 ?_
                refine g_eqst (st1 := ([.int (nI (8 + i)), .ref (adr 1), .int (S (8 + j))] : List Value)) (congrArg (fun z0 : Int32 => (([.int z0, .ref (adr 1), .int (S (8 + j))] : List Value))) (mI_add 8 i)) ?_
                refine g_iald C 1 (by omega) m1 (vp_in_nI (by omega) (by omega)) dX7_unlike_47 ?_
                refine g_eqst (show ([.int (S (nI (8 + i)).toNatClampNeg), .int (S (8 + j))] : List Value) = ([.int (S (8 + i)), .int (S (8 + j))] : List Value) from by rw [nI_clamp (by omega)]) ?_
                refine g_icmp_eq C 55 (by decide) dX7_unlike_48 (fun c48 => ?_) (fun c48 => ?_)
                · -- taken at 48
                  have c48' := i_eq c48
                  refine g_iconst C 0 (by decide) dX7_unlike_55 ?_
                  refine g_istore_n C [(3, .int 0), (0, .ref (adr 0)), (1, .int (nI (cnt (fun p => !seenF σ.2.2.2.1 (σ.2.2.2.1 p) p) i))), (2, .int (nI i)), (4, .int (nI j))] (by decide) rfl dX7_unlike_56 ?_
                  refine g_iinc C 4 [(4, .int (nI (j + 1))), (3, .int 0), (0, .ref (adr 0)), (1, .int (nI (cnt (fun p => !seenF σ.2.2.2.1 (σ.2.2.2.1 p) p) i))), (2, .int (nI i))] rfl (iinc_nI j) (by decide) rfl dX7_unlike_57 ?_
                  refine g_goto C 19 (by decide) dX7_unlike_60 ?_
                  have hw1 := hS.2.2.2.2.1 j (by omega)
                  have hw2 := hS.2.2.2.2.1 i (by omega)
                  have hb := sn_b (hw1.symm.trans (c48.trans hw2))
                  refine g_sub [2, 3, 4, 1, 0] rfl ?_
                  have ev_5 : 0 = bI (!seenF σ.2.2.2.1 (σ.2.2.2.1 i) (j + 1)) := by exact hb
                  refine g_eqlv (lv1 := [(0, .ref (adr 0)), (1, .int (nI (cnt (fun p => !seenF σ.2.2.2.1 (σ.2.2.2.1 p) p) i))), (2, .int (nI i)), (3, .int (bI (!seenF σ.2.2.2.1 (σ.2.2.2.1 i) (j + 1)))), (4, .int (nI (j + 1)))]) (congrArg (fun z0 : Int32 => ([(0, .ref (adr 0)), (1, .int (nI (cnt (fun p => !seenF σ.2.2.2.1 (σ.2.2.2.1 p) p) i))), (2, .int (nI i)), (3, .int z0), (4, .int (nI (j + 1)))] : List (Nat × Value))) ev_5) ?_
                  exact ih19 (j + 1) (by omega) (by omega) 
                · -- not taken at 48
                  have c48' := i_ne c48
                  refine g_iconst C 1 (by decide) dX7_unlike_51 ?_
                  refine g_goto C 56 (by decide) dX7_unlike_52 ?_
                  refine g_istore_n C [(3, .int 1), (0, .ref (adr 0)), (1, .int (nI (cnt (fun p => !seenF σ.2.2.2.1 (σ.2.2.2.1 p) p) i))), (2, .int (nI i)), (4, .int (nI j))] (by decide) rfl dX7_unlike_56 ?_
                  refine g_iinc C 4 [(4, .int (nI (j + 1))), (3, .int 1), (0, .ref (adr 0)), (1, .int (nI (cnt (fun p => !seenF σ.2.2.2.1 (σ.2.2.2.1 p) p) i))), (2, .int (nI i))] rfl (iinc_nI j) (by decide) rfl dX7_unlike_57 ?_
                  refine g_goto C 19 (by decide) dX7_unlike_60 ?_
                  have hw1 := hS.2.2.2.2.1 j (by omega)
                  have hw2 := hS.2.2.2.2.1 i (by omega)
                  have hb := sn_c c26' (fun h => c48 (hw1.trans (h.trans hw2.symm)))
                  refine g_sub [2, 3, 4, 1, 0] rfl ?_
                  have ev_6 : 1 = bI (!seenF σ.2.2.2.1 (σ.2.2.2.1 i) (j + 1)) := by exact hb
                  refine g_eqlv (lv1 := [(0, .ref (adr 0)), (1, .int (nI (cnt (fun p => !seenF σ.2.2.2.1 (σ.2.2.2.1 p) p) i))), (2, .int (nI i)), (3, .int (bI (!seenF σ.2.2.2.1 (σ.2.2.2.1 i) (j + 1)))), (4, .int (nI (j + 1)))]) (congrArg (fun z0 : Int32 => ([(0, .ref (adr 0)), (1, .int (nI (cnt (fun p => !seenF σ.2.2.2.1 (σ.2.2.2.1 p) p) i))), (2, .int (nI i)), (3, .int z0), (4, .int (nI (j + 1)))] : List (Nat × Value))) ev_6) ?_
                  exact ih19 (j + 1) (by omega) (by omega) 
        refine g_sub [2, 3, 4, 1, 0] rfl ?_
        have ev_7 : 1 = bI (!seenF σ.2.2.2.1 (σ.2.2.2.1 i) 0) := by rfl
        refine g_eqlv (lv1 := [(0, .ref (adr 0)), (1, .int (nI (cnt (fun p => !seenF σ.2.2.2.1 (σ.2.2.2.1 p) p) i))), (2, .int (nI i)), (3, .int (bI (!seenF σ.2.2.2.1 (σ.2.2.2.1 i) 0))), (4, .int 0)]) (congrArg (fun z0 : Int32 => ([(0, .ref (adr 0)), (1, .int (nI (cnt (fun p => !seenF σ.2.2.2.1 (σ.2.2.2.1 p) p) i))), (2, .int (nI i)), (3, .int z0), (4, .int 0)] : List (Nat × Value))) ev_7) ?_
        exact L19 (i + 1) 0 (by omega) (by omega) 
  refine g_sub [2, 1, 0] rfl ?_
  have ev_8 : 0 = nI (cnt (fun p => !seenF σ.2.2.2.1 (σ.2.2.2.1 p) p) 0) := by rfl
  refine g_eqlv (lv1 := [(0, .ref (adr 0)), (1, .int (nI (cnt (fun p => !seenF σ.2.2.2.1 (σ.2.2.2.1 p) p) 0))), (2, .int 0)]) (congrArg (fun z0 : Int32 => ([(0, .ref (adr 0)), (1, .int z0), (2, .int 0)] : List (Nat × Value))) ev_8) ?_
  exact L4 (σ.1 + 1) 0 (by omega) (by omega) 
set_option maxRecDepth 100000 in
set_option maxHeartbeats 4000000 in
theorem c_X7_count (l : Launch) (D : va_G) (kc : Nat → ClassId) (N : Nat) (adr : Nat → Nat) (cell : Nat → va_E) (σ : SD) (hn : Nat) (hi : Nat → SD) (L : Nat) (ch : Nat → Int32) (x : Int32) (hM : MAt cell adr kc σ hn hi L ch) (hG : Good σ) (hN : 9 ≤ N) : MI l yX7_count wsX7_count ({ frames := 1, cells := 0, slots := 0, locals := 24 }) D kc N adr cell [.ref (adr 0), .int x] (fun (v : Int32) (cell1 : Nat → va_E) => countR σ hn L x = v ∧ cell = cell1) := by
  refine met_i (cc := cX7_count) (maxL := 2) (ret := (some .int)) (by decide) rfl (Nat.le_of_ble_eq_true rfl) (lv := [(0, .ref (adr 0)), (1, .int x)]) rfl ?_
  intro Pg Ev Sv Mi args below Me Cd Ar C hr hlk hnm
  have in7 : ∀ w ∈ u_ws RX7 TX7 12, w ∈ wsX7_count := by decide +kernel
  have f7 := C.2.2.2.2.1 (.fieldLink RX7 7 "WordAnchorsModel" "s" "[I") (by decide +kernel)
  have f44 := C.2.2.2.2.1 (.fieldLink RX7 44 "WordAnchorsModel" "states" "I") (by decide +kernel)
  have f139 := C.2.2.2.2.1 (.fieldLink RX7 139 "WordAnchorsModel" "typed" "I") (by decide +kernel)
  have k43 := C.2.2.2.2.1 (.constant RX7 43 (-1000001)) (by decide +kernel)
  have hM0 := hM
  obtain ⟨S, Wa, Bg, As, tx, at', re, nu, mo, sh, hB, hS, hH, htx, hh4, hL60⟩ := hM
  have hB0 := hB
  obtain ⟨m0, m1, m2, m3, m4, m5, m6, m7, m8⟩ := hB
  have hg1 := hG.1
  have hg2 := hG.2.1
  have e0 := hS.1
  have e1 := hS.2.1
  have litm1000001 : ((-1000001) : Int32).toInt = -1000001 := rfl
  have litm1 : ((-1) : Int32).toInt = -1 := rfl
  have lit0 : (0 : Int32).toInt = 0 := rfl
  have lit1 : (1 : Int32).toInt = 1 := rfl
  have lit2 : (2 : Int32).toInt = 2 := rfl
  have lit3 : (3 : Int32).toInt = 3 := rfl
  have lit20 : (20 : Int32).toInt = 20 := rfl
  have lit24 : (24 : Int32).toInt = 24 := rfl
  have tn___1 : (nI σ.1).toInt = ((σ.1 : Nat) : Int) := nI_toInt (by omega)
  have tn___2_1 : (nI σ.2.1).toInt = ((σ.2.1 : Nat) : Int) := nI_toInt (by omega)
  have tn_hn : (nI hn).toInt = ((hn : Nat) : Int) := nI_toInt (by omega)
  have tn_L : (nI L).toInt = ((L : Nat) : Int) := nI_toInt (by omega)
  refine g_iload_n C 1 rfl dX7_count_0 ?_
  by_cases c1_0 : x = 0
  · have c1' := i_eq c1_0
    refine g_tableIn C 40 (by rw [c1_0]; decide) (by rw [c1_0]; decide) (by rw [c1_0] <;> rfl) (by decide) dX7_count_1 ?_
    refine g_eqlv (lv1 := [(0, .ref (adr 0)), (1, .int 0)]) (congrArg (fun z0 : Int32 => ([(0, .ref (adr 0)), (1, .int z0)] : List (Nat × Value))) c1_0) ?_
    refine g_aload_n C 0 rfl dX7_count_40 ?_
    refine g_get C 0 7 0 (by omega) m0 rfl in7 (by decide) f7 (fun _ h9 => h9) rfl dX7_count_41 ?_
    refine g_iload_n C 1 rfl dX7_count_44 ?_
    refine g_iald C 1 (by omega) m1 (vp_in_iff.mpr (by omega)) dX7_count_45 ?_
    refine g_eqst (st1 := ([.int (S 0)] : List Value)) rfl ?_
    refine g_iret C hr rfl hlk dX7_count_46 ?_
    exact ⟨by unfold countR; rw [if_pos c1_0]; exact e0.symm, rfl⟩
  have c1n0 := i_ne c1_0
  by_cases c1_1 : x = 1
  · have c1' := i_eq c1_1
    refine g_tableIn C 40 (by rw [c1_1]; decide) (by rw [c1_1]; decide) (by rw [c1_1] <;> rfl) (by decide) dX7_count_1 ?_
    refine g_eqlv (lv1 := [(0, .ref (adr 0)), (1, .int 1)]) (congrArg (fun z0 : Int32 => ([(0, .ref (adr 0)), (1, .int z0)] : List (Nat × Value))) c1_1) ?_
    refine g_aload_n C 0 rfl dX7_count_40 ?_
    refine g_get C 0 7 0 (by omega) m0 rfl in7 (by decide) f7 (fun _ h9 => h9) rfl dX7_count_41 ?_
    refine g_iload_n C 1 rfl dX7_count_44 ?_
    refine g_iald C 1 (by omega) m1 (vp_in_iff.mpr (by omega)) dX7_count_45 ?_
    refine g_eqst (st1 := ([.int (S 1)] : List Value)) rfl ?_
    refine g_iret C hr rfl hlk dX7_count_46 ?_
    exact ⟨by unfold countR; rw [if_neg (by rw [c1_1]; decide), if_pos c1_1]; exact e1.symm, rfl⟩
  have c1n1 := i_ne c1_1
  by_cases c1_2 : x = 2
  · have c1' := i_eq c1_2
    refine g_tableIn C 47 (by rw [c1_2]; decide) (by rw [c1_2]; decide) (by rw [c1_2] <;> rfl) (by decide) dX7_count_1 ?_
    refine g_aload_n C 0 rfl dX7_count_47 ?_
    refine g_Vi C [] 0 7 (by omega) m0 rfl (c_X7_unlike l D kc N adr cell S Wa Bg As tx (nI hn) (nI L) at' re nu mo sh σ  ⟨m0, m1, m2, m3, m4, m5, m6, m7, m8⟩ (by omega) hS hG) (cwV 0 C.2.2.2.2.1 gX7_count_X7_unlike rfl rfl rfl (by decide +kernel) ⟨Nat.le_of_ble_eq_true rfl, Nat.le_of_ble_eq_true rfl⟩) rfl rfl (Nat.le_of_ble_eq_true rfl) (Nat.zero_le _) (Nat.zero_le _) dX7_count_48 (fun v1 cell1 q1 => ?_)
    obtain ⟨rfl, rfl⟩ := q1
    refine g_iret C hr rfl hlk dX7_count_51 ?_
    exact ⟨by unfold countR; rw [if_neg (by rw [c1_2]; decide), if_neg (by rw [c1_2]; decide), if_pos c1_2], rfl⟩
  have c1n2 := i_ne c1_2
  by_cases c1_3 : x = 3
  · have c1' := i_eq c1_3
    refine g_tableIn C 52 (by rw [c1_3]; decide) (by rw [c1_3]; decide) (by rw [c1_3] <;> rfl) (by decide) dX7_count_1 ?_
    refine g_aload_n C 0 rfl dX7_count_52 ?_
    refine g_get C 0 7 0 (by omega) m0 rfl in7 (by decide) f7 (fun _ h9 => h9) rfl dX7_count_53 ?_
    refine g_iconst C 2 (by decide) dX7_count_56 ?_
    refine g_iald C 1 (by omega) m1 (vp_in_iff.mpr (by omega)) dX7_count_57 ?_
    refine g_eqst (st1 := ([.int (S 2)] : List Value)) rfl ?_
    refine g_iret C hr rfl hlk dX7_count_58 ?_
    exact ⟨by unfold countR; rw [if_neg (by rw [c1_3]; decide), if_neg (by rw [c1_3]; decide), if_neg (by rw [c1_3]; decide), if_pos c1_3]; exact hS.2.2.1.symm, rfl⟩
  have c1n3 := i_ne c1_3
  by_cases c1_4 : x = 4
  · have c1' := i_eq c1_4
    refine g_tableIn C 59 (by rw [c1_4]; decide) (by rw [c1_4]; decide) (by rw [c1_4] <;> rfl) (by decide) dX7_count_1 ?_
    refine g_aload_n C 0 rfl dX7_count_59 ?_
    refine g_get C 0 7 4 (by omega) m0 rfl in7 (by decide) f44 (fun _ h9 => h9) rfl dX7_count_60 ?_
    refine g_iret C hr rfl hlk dX7_count_63 ?_
    exact ⟨by unfold countR; rw [if_neg (by rw [c1_4]; decide), if_neg (by rw [c1_4]; decide), if_neg (by rw [c1_4]; decide), if_neg (by rw [c1_4]; decide), if_pos c1_4], rfl⟩
  have c1n4 := i_ne c1_4
  by_cases c1_5 : x = 5
  · have c1' := i_eq c1_5
    refine g_tableIn C 64 (by rw [c1_5]; decide) (by rw [c1_5]; decide) (by rw [c1_5] <;> rfl) (by decide) dX7_count_1 ?_
    refine g_aload_n C 0 rfl dX7_count_64 ?_
    refine g_get C 0 7 6 (by omega) m0 rfl in7 (by decide) f139 (fun _ h9 => h9) rfl dX7_count_65 ?_
    refine g_iret C hr rfl hlk dX7_count_68 ?_
    exact ⟨by unfold countR; rw [if_neg (by rw [c1_5]; decide), if_neg (by rw [c1_5]; decide), if_neg (by rw [c1_5]; decide), if_neg (by rw [c1_5]; decide), if_neg (by rw [c1_5]; decide), if_pos c1_5], rfl⟩
  have c1n5 := i_ne c1_5
  refine g_tableOut C 69 (by have hl0 : (0 : Int32).toInt = 0 := rfl; have hl1 : (1 : Int32).toInt = 1 := rfl; have hl2 : (2 : Int32).toInt = 2 := rfl; have hl3 : (3 : Int32).toInt = 3 := rfl; have hl4 : (4 : Int32).toInt = 4 := rfl; have hl5 : (5 : Int32).toInt = 5 := rfl; omega) (by decide) dX7_count_1 ?_
  refine g_iload_n C 1 rfl dX7_count_69 ?_
  refine g_bipush C 20 (by decide) dX7_count_70 ?_
  refine g_bipush C 24 (by decide) dX7_count_72 ?_
  refine g_Si C [.int x, .int 20, .int 24] (c_X7_in l D kc N adr cell x 20 24) (va_cwS 3 C.2.2.2.2.1 gX7_count_X7_in rfl rfl rfl (by decide +kernel) ⟨Nat.le_of_ble_eq_true rfl, Nat.le_of_ble_eq_true rfl⟩) rfl rfl (Nat.le_of_ble_eq_true rfl) (Nat.zero_le _) (Nat.zero_le _) dX7_count_74 (fun v2 cell2 q2 => ?_)
  obtain ⟨rfl, rfl⟩ := q2
  refine g_if_eq C 94 (by decide) dX7_count_77 (fun c77 => ?_) (fun c77 => ?_)
  · -- taken at 77
    have c77' := bI_f c77
    refine g_ldc C (-1000001) k43 dX7_count_94 ?_
    refine g_iret C hr rfl hlk dX7_count_96 ?_
    exact ⟨by unfold countR; rw [if_neg c1_0, if_neg c1_1, if_neg c1_2, if_neg c1_3, if_neg c1_4, if_neg c1_5]; exact if_neg (by omega), rfl⟩
  · -- not taken at 77
    have c77' := bI_t c77
    have ez : x = nI x.toNatClampNeg := nI_cl (by omega)
    have kz := cl_toInt (x := x) (by omega)
    generalize hzz : x.toNatClampNeg = z at ez kz
    refine g_eqlv (lv1 := [(0, .ref (adr 0)), (1, .int (nI z))]) (congrArg (fun z0 : Int32 => ([(0, .ref (adr 0)), (1, .int z0)] : List (Nat × Value))) ez) ?_
    refine g_aload_n C 0 rfl dX7_count_80 ?_
    refine g_get C 0 7 0 (by omega) m0 rfl in7 (by decide) f7 (fun _ h9 => h9) rfl dX7_count_81 ?_
    refine g_iconst C 3 (by decide) dX7_count_84 ?_
    refine g_iload_n C 1 rfl dX7_count_85 ?_
    refine g_iadd C dX7_count_86 ?_
    refine g_eqst (st1 := ([.int (nI (3 + z)), .ref (adr 1)] : List Value)) (congrArg (fun z0 : Int32 => (([.int z0, .ref (adr 1)] : List Value))) (mI_add 3 z)) ?_
    refine g_bipush C 20 (by decide) dX7_count_87 ?_
    refine g_isub C dX7_count_89 ?_
    refine g_eqst (show ([.int ((nI (3 + z)) - 20), .ref (adr 1)] : List Value) = ([.int (nI (3 + z - 20)), .ref (adr 1)] : List Value) from by rw [show nI (3 + z) - 20 = nI (3 + z - 20) from pk_sub (b := 20) (by omega)]) ?_
    refine g_iald C 1 (by omega) m1 (vp_in_nI (by omega) (by omega)) dX7_count_90 ?_
    refine g_eqst (show ([.int (S (nI (3 + z - 20)).toNatClampNeg)] : List Value) = ([.int (S (3 + z - 20))] : List Value) from by rw [nI_clamp (by omega)]) ?_
    refine g_goto C 96 (by decide) dX7_count_91 ?_
    refine g_iret C hr rfl hlk dX7_count_96 ?_
    have hx20 : x - 20 = nI (z - 20) := by rw [ez]; exact pk_sub (b := 20) (by omega)
    exact ⟨by unfold countR; rw [if_neg c1_0, if_neg c1_1, if_neg c1_2, if_neg c1_3, if_neg c1_4, if_neg c1_5, if_pos (by omega), hx20, nI_clamp (by omega)]; exact ((congrArg S (by omega : 3 + z - 20 = 3 + (z - 20))).trans (hS.2.2.2.1 (z - 20) (by omega))).symm, rfl⟩
