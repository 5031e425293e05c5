set_option maxRecDepth 100000 in
set_option maxHeartbeats 4000000 in
theorem c_X4_size (l : Launch) (D : va_G) (kc : Nat → ClassId) (N : Nat) (adr : Nat → Nat) (cell : Nat → va_E) (r : Nat) (W T U : Nat → Int32) (n : Nat)  (hR : RowAt cell adr kc r W T U n) (hN : r + 4 ≤ N) : MI l yX4_size wsX4_size ({ frames := 0, cells := 0, slots := 0, locals := 0 }) D kc N adr cell [.ref (adr r)] (fun v cell1 => v = nI n ∧ cell1 = cell) := by
  refine met_i (cc := cX4_size) (maxL := 1) (ret := (some .int)) (by decide) rfl (Nat.le_of_ble_eq_true rfl) (lv := [(0, .ref (adr r))]) rfl ?_
  intro p e s m args below meth c A C hr hlk hnm
  have in4 : ∀ w ∈ u_ws RX4 TX4 4, w ∈ wsX4_size := by decide +kernel
  have f21 := C.2.2.2.2.1 (.fieldLink RX4 21 "WordAnchors$Row" "size" "I") (by decide +kernel)
  obtain ⟨h0, h1, h2, h3, hn⟩ := hR
  have litm1 : ((-1) : Int32).toInt = -1 := rfl
  have lit0 : (0 : Int32).toInt = 0 := rfl
  have lit1 : (1 : Int32).toInt = 1 := rfl
  have tn_n : (nI n).toInt = ((n : Nat) : Int) := nI_toInt (by omega)
  refine g_aload_n C 0 rfl dX4_size_0 ?_
  refine g_get C r 4 3 (by omega) h0 rfl in4 (by decide) f21 (fun _ h9 => h9) rfl dX4_size_1 ?_
  refine g_iret C hr rfl hlk dX4_size_4 ?_
  exact ⟨by first | rfl | exact (bI_1 (by omega)).symm | exact (bI_0 (by omega)).symm | exact (if_pos (by omega)).symm | exact (if_neg (by omega)).symm, rfl⟩
set_option maxRecDepth 100000 in
set_option maxHeartbeats 4000000 in
theorem c_X4_isFull (l : Launch) (D : va_G) (kc : Nat → ClassId) (N : Nat) (adr : Nat → Nat) (cell : Nat → va_E) (r : Nat) (W T U : Nat → Int32) (n : Nat)  (hR : RowAt cell adr kc r W T U n) (hN : r + 4 ≤ N) : MI l yX4_isFull wsX4_isFull ({ frames := 0, cells := 0, slots := 0, locals := 0 }) D kc N adr cell [.ref (adr r)] (fun v cell1 => v = bI (decide (40 ≤ n)) ∧ cell1 = cell) := by
  refine met_i (cc := cX4_isFull) (maxL := 1) (ret := (some .boolean)) (by decide) rfl (Nat.le_of_ble_eq_true rfl) (lv := [(0, .ref (adr r))]) rfl ?_
  intro p e s m args below meth c A C hr hlk hnm
  have in4 : ∀ w ∈ u_ws RX4 TX4 4, w ∈ wsX4_isFull := by decide +kernel
  have f21 := C.2.2.2.2.1 (.fieldLink RX4 21 "WordAnchors$Row" "size" "I") (by decide +kernel)
  have f9 := C.2.2.2.2.1 (.fieldLink RX4 9 "WordAnchors$Row" "words" "[I") (by decide +kernel)
  obtain ⟨h0, h1, h2, h3, hn⟩ := hR
  have litm1 : ((-1) : Int32).toInt = -1 := rfl
  have lit0 : (0 : Int32).toInt = 0 := rfl
  have lit1 : (1 : Int32).toInt = 1 := rfl
  have lit40 : (40 : Int32).toInt = 40 := rfl
  have tn_n : (nI n).toInt = ((n : Nat) : Int) := nI_toInt (by omega)
  refine g_aload_n C 0 rfl dX4_isFull_0 ?_
  refine g_get C r 4 3 (by omega) h0 rfl in4 (by decide) f21 (fun _ h9 => h9) rfl dX4_isFull_1 ?_
  refine g_aload_n C 0 rfl dX4_isFull_4 ?_
  refine g_get C r 4 0 (by omega) h0 rfl in4 (by decide) f9 (fun _ h9 => h9) rfl dX4_isFull_5 ?_
  refine g_alen C (r + 1) 0 (by omega) h1 rfl 40 rfl dX4_isFull_8 ?_
  refine g_icmp_lt C 16 (by decide) dX4_isFull_9 (fun c9 => ?_) (fun c9 => ?_)
  · -- taken at 9
    have c9' := i_lt c9
    refine g_iconst C 0 (by decide) dX4_isFull_16 ?_
    refine g_iret C hr rfl hlk dX4_isFull_17 ?_
    exact ⟨by first | rfl | exact (bI_1 (by omega)).symm | exact (bI_0 (by omega)).symm | exact (if_pos (by omega)).symm | exact (if_neg (by omega)).symm, rfl⟩
  · -- not taken at 9
    have c9' := i_nlt c9
    refine g_iconst C 1 (by decide) dX4_isFull_12 ?_
    refine g_goto C 17 (by decide) dX4_isFull_13 ?_
    refine g_iret C hr rfl hlk dX4_isFull_17 ?_
    exact ⟨by first | rfl | exact (bI_1 (by omega)).symm | exact (bI_0 (by omega)).symm | exact (if_pos (by omega)).symm | exact (if_neg (by omega)).symm, rfl⟩
set_option maxRecDepth 100000 in
set_option maxHeartbeats 4000000 in
theorem c_X4_holds (l : Launch) (D : va_G) (kc : Nat → ClassId) (N : Nat) (adr : Nat → Nat) (cell : Nat → va_E) (r : Nat) (W T U : Nat → Int32) (n : Nat) (x : Int32) (hR : RowAt cell adr kc r W T U n) (hN : r + 4 ≤ N) : MI l yX4_holds wsX4_holds ({ frames := 0, cells := 0, slots := 0, locals := 0 }) D kc N adr cell [.ref (adr r), .int x] (fun v cell1 => v = bI (decide (0 ≤ x.toInt ∧ x.toInt < n)) ∧ cell1 = cell) := by
  refine met_i (cc := cX4_holds) (maxL := 2) (ret := (some .boolean)) (by decide) rfl (Nat.le_of_ble_eq_true rfl) (lv := [(0, .ref (adr r)), (1, .int x)]) rfl ?_
  intro p e s m args below meth c A C hr hlk hnm
  have in4 : ∀ w ∈ u_ws RX4 TX4 4, w ∈ wsX4_holds := by decide +kernel
  have f21 := C.2.2.2.2.1 (.fieldLink RX4 21 "WordAnchors$Row" "size" "I") (by decide +kernel)
  have f9 := C.2.2.2.2.1 (.fieldLink RX4 9 "WordAnchors$Row" "words" "[I") (by decide +kernel)
  obtain ⟨h0, h1, h2, h3, hn⟩ := hR
  have litm1 : ((-1) : Int32).toInt = -1 := rfl
  have lit0 : (0 : Int32).toInt = 0 := rfl
  have lit1 : (1 : Int32).toInt = 1 := rfl
  have lit40 : (40 : Int32).toInt = 40 := rfl
  have tn_n : (nI n).toInt = ((n : Nat) : Int) := nI_toInt (by omega)
  refine g_iload_n C 1 rfl dX4_holds_0 ?_
  refine g_if_lt C 25 (by decide) dX4_holds_1 (fun c1 => ?_) (fun c1 => ?_)
  · -- taken at 1
    have c1' := i_lt c1
    refine g_iconst C 0 (by decide) dX4_holds_25 ?_
    refine g_iret C hr rfl hlk dX4_holds_26 ?_
    exact ⟨by first | rfl | exact (bI_1 (by omega)).symm | exact (bI_0 (by omega)).symm | exact (if_pos (by omega)).symm | exact (if_neg (by omega)).symm, rfl⟩
  · -- not taken at 1
    have c1' := i_nlt c1
    refine g_iload_n C 1 rfl dX4_holds_4 ?_
    refine g_aload_n C 0 rfl dX4_holds_5 ?_
    refine g_get C r 4 3 (by omega) h0 rfl in4 (by decide) f21 (fun _ h9 => h9) rfl dX4_holds_6 ?_
    refine g_icmp_ge C 25 (by decide) dX4_holds_9 (fun c9 => ?_) (fun c9 => ?_)
    · -- taken at 9
      have c9' := i_le c9
      refine g_iconst C 0 (by decide) dX4_holds_25 ?_
      refine g_iret C hr rfl hlk dX4_holds_26 ?_
      exact ⟨by first | rfl | exact (bI_1 (by omega)).symm | exact (bI_0 (by omega)).symm | exact (if_pos (by omega)).symm | exact (if_neg (by omega)).symm, rfl⟩
    · -- not taken at 9
      have c9' := i_nle c9
      refine g_iload_n C 1 rfl dX4_holds_12 ?_
      refine g_aload_n C 0 rfl dX4_holds_13 ?_
      refine g_get C r 4 0 (by omega) h0 rfl in4 (by decide) f9 (fun _ h9 => h9) rfl dX4_holds_14 ?_
      refine g_alen C (r + 1) 0 (by omega) h1 rfl 40 rfl dX4_holds_17 ?_
      refine g_icmp_ge C 25 (by decide) dX4_holds_18 (fun c18 => ?_) (fun c18 => ?_)
      · -- taken at 18
        have c18' := i_le c18
        refine g_iconst C 0 (by decide) dX4_holds_25 ?_
        refine g_iret C hr rfl hlk dX4_holds_26 ?_
        exact ⟨by first | rfl | exact (bI_1 (by omega)).symm | exact (bI_0 (by omega)).symm | exact (if_pos (by omega)).symm | exact (if_neg (by omega)).symm, rfl⟩
      · -- not taken at 18
        have c18' := i_nle c18
        refine g_iconst C 1 (by decide) dX4_holds_21 ?_
        refine g_goto C 26 (by decide) dX4_holds_22 ?_
        refine g_iret C hr rfl hlk dX4_holds_26 ?_
        exact ⟨by first | rfl | exact (bI_1 (by omega)).symm | exact (bI_0 (by omega)).symm | exact (if_pos (by omega)).symm | exact (if_neg (by omega)).symm, rfl⟩
set_option maxRecDepth 100000 in
set_option maxHeartbeats 4000000 in
theorem c_X4_takesAt (l : Launch) (D : va_G) (kc : Nat → ClassId) (N : Nat) (adr : Nat → Nat) (cell : Nat → va_E) (r : Nat) (W T U : Nat → Int32) (n : Nat) (x : Int32) (hR : RowAt cell adr kc r W T U n) (hN : r + 4 ≤ N) : MI l yX4_takesAt wsX4_takesAt ({ frames := 0, cells := 0, slots := 0, locals := 0 }) D kc N adr cell [.ref (adr r), .int x] (fun v cell1 => v = bI (decide (0 ≤ x.toInt ∧ x.toInt ≤ n)) ∧ cell1 = cell) := by
  refine met_i (cc := cX4_takesAt) (maxL := 2) (ret := (some .boolean)) (by decide) rfl (Nat.le_of_ble_eq_true rfl) (lv := [(0, .ref (adr r)), (1, .int x)]) rfl ?_
  intro p e s m args below meth c A C hr hlk hnm
  have in4 : ∀ w ∈ u_ws RX4 TX4 4, w ∈ wsX4_takesAt := by decide +kernel
  have f21 := C.2.2.2.2.1 (.fieldLink RX4 21 "WordAnchors$Row" "size" "I") (by decide +kernel)
  obtain ⟨h0, h1, h2, h3, hn⟩ := hR
  have litm1 : ((-1) : Int32).toInt = -1 := rfl
  have lit0 : (0 : Int32).toInt = 0 := rfl
  have lit1 : (1 : Int32).toInt = 1 := rfl
  have tn_n : (nI n).toInt = ((n : Nat) : Int) := nI_toInt (by omega)
  refine g_iload_n C 1 rfl dX4_takesAt_0 ?_
  refine g_if_lt C 16 (by decide) dX4_takesAt_1 (fun c1 => ?_) (fun c1 => ?_)
  · -- taken at 1
    have c1' := i_lt c1
    refine g_iconst C 0 (by decide) dX4_takesAt_16 ?_
    refine g_iret C hr rfl hlk dX4_takesAt_17 ?_
    exact ⟨by first | rfl | exact (bI_1 (by omega)).symm | exact (bI_0 (by omega)).symm | exact (if_pos (by omega)).symm | exact (if_neg (by omega)).symm, rfl⟩
  · -- not taken at 1
    have c1' := i_nlt c1
    refine g_iload_n C 1 rfl dX4_takesAt_4 ?_
    refine g_aload_n C 0 rfl dX4_takesAt_5 ?_
    refine g_get C r 4 3 (by omega) h0 rfl in4 (by decide) f21 (fun _ h9 => h9) rfl dX4_takesAt_6 ?_
    refine g_icmp_gt C 16 (by decide) dX4_takesAt_9 (fun c9 => ?_) (fun c9 => ?_)
    · -- taken at 9
      have c9' := i_lt c9
      refine g_iconst C 0 (by decide) dX4_takesAt_16 ?_
      refine g_iret C hr rfl hlk dX4_takesAt_17 ?_
      exact ⟨by first | rfl | exact (bI_1 (by omega)).symm | exact (bI_0 (by omega)).symm | exact (if_pos (by omega)).symm | exact (if_neg (by omega)).symm, rfl⟩
    · -- not taken at 9
      have c9' := i_nlt c9
      refine g_iconst C 1 (by decide) dX4_takesAt_12 ?_
      refine g_goto C 17 (by decide) dX4_takesAt_13 ?_
      refine g_iret C hr rfl hlk dX4_takesAt_17 ?_
      exact ⟨by first | rfl | exact (bI_1 (by omega)).symm | exact (bI_0 (by omega)).symm | exact (if_pos (by omega)).symm | exact (if_neg (by omega)).symm, rfl⟩
set_option maxRecDepth 100000 in
set_option maxHeartbeats 4000000 in
theorem c_X4_at (l : Launch) (D : va_G) (kc : Nat → ClassId) (N : Nat) (adr : Nat → Nat) (cell : Nat → va_E) (r : Nat) (W T U : Nat → Int32) (n : Nat) (x : Int32) (hR : RowAt cell adr kc r W T U n) (hN : r + 4 ≤ N) : MI l yX4_at wsX4_at ({ frames := 0, cells := 0, slots := 0, locals := 0 }) D kc N adr cell [.ref (adr r), .int x] (fun v cell1 => v = atF n W x ∧ cell1 = cell) := by
  refine met_i (cc := cX4_at) (maxL := 2) (ret := (some .int)) (by decide) rfl (Nat.le_of_ble_eq_true rfl) (lv := [(0, .ref (adr r)), (1, .int x)]) rfl ?_
  intro p e s m args below meth c A C hr hlk hnm
  have in4 : ∀ w ∈ u_ws RX4 TX4 4, w ∈ wsX4_at := by decide +kernel
  have f21 := C.2.2.2.2.1 (.fieldLink RX4 21 "WordAnchors$Row" "size" "I") (by decide +kernel)
  have f9 := C.2.2.2.2.1 (.fieldLink RX4 9 "WordAnchors$Row" "words" "[I") (by decide +kernel)
  obtain ⟨h0, h1, h2, h3, hn⟩ := hR
  have litm1 : ((-1) : Int32).toInt = -1 := rfl
  have lit0 : (0 : Int32).toInt = 0 := rfl
  have lit1 : (1 : Int32).toInt = 1 := rfl
  have lit40 : (40 : Int32).toInt = 40 := rfl
  have tn_n : (nI n).toInt = ((n : Nat) : Int) := nI_toInt (by omega)
  refine g_iload_n C 1 rfl dX4_at_0 ?_
  refine g_if_lt C 30 (by decide) dX4_at_1 (fun c1 => ?_) (fun c1 => ?_)
  · -- taken at 1
    have c1' := i_lt c1
    refine g_iconst C (-1) (by decide) dX4_at_30 ?_
    refine g_iret C hr rfl hlk dX4_at_31 ?_
    exact ⟨by first | rfl | exact (bI_1 (by omega)).symm | exact (bI_0 (by omega)).symm | exact (if_pos (by omega)).symm | exact (if_neg (by omega)).symm, rfl⟩
  · -- not taken at 1
    have c1' := i_nlt c1
    refine g_iload_n C 1 rfl dX4_at_4 ?_
    refine g_aload_n C 0 rfl dX4_at_5 ?_
    refine g_get C r 4 3 (by omega) h0 rfl in4 (by decide) f21 (fun _ h9 => h9) rfl dX4_at_6 ?_
    refine g_icmp_ge C 30 (by decide) dX4_at_9 (fun c9 => ?_) (fun c9 => ?_)
    · -- taken at 9
      have c9' := i_le c9
      refine g_iconst C (-1) (by decide) dX4_at_30 ?_
      refine g_iret C hr rfl hlk dX4_at_31 ?_
      exact ⟨by first | rfl | exact (bI_1 (by omega)).symm | exact (bI_0 (by omega)).symm | exact (if_pos (by omega)).symm | exact (if_neg (by omega)).symm, rfl⟩
    · -- not taken at 9
      have c9' := i_nle c9
      refine g_iload_n C 1 rfl dX4_at_12 ?_
      refine g_aload_n C 0 rfl dX4_at_13 ?_
      refine g_get C r 4 0 (by omega) h0 rfl in4 (by decide) f9 (fun _ h9 => h9) rfl dX4_at_14 ?_
      refine g_alen C (r + 1) 0 (by omega) h1 rfl 40 rfl dX4_at_17 ?_
      refine g_icmp_ge C 30 (by decide) dX4_at_18 (fun c18 => ?_) (fun c18 => ?_)
      · -- taken at 18
        have c18' := i_le c18
        refine g_iconst C (-1) (by decide) dX4_at_30 ?_
        refine g_iret C hr rfl hlk dX4_at_31 ?_
        exact ⟨by first | rfl | exact (bI_1 (by omega)).symm | exact (bI_0 (by omega)).symm | exact (if_pos (by omega)).symm | exact (if_neg (by omega)).symm, rfl⟩
      · -- not taken at 18
        have c18' := i_nle c18
        refine g_aload_n C 0 rfl dX4_at_21 ?_
        refine g_get C r 4 0 (by omega) h0 rfl in4 (by decide) f9 (fun _ h9 => h9) rfl dX4_at_22 ?_
        refine g_iload_n C 1 rfl dX4_at_25 ?_
        refine g_iald C (r + 1) (by omega) h1 (vp_in_iff.mpr (by omega)) dX4_at_26 ?_
        refine g_goto C 31 (by decide) dX4_at_27 ?_
        refine g_iret C hr rfl hlk dX4_at_31 ?_
        exact ⟨by first | rfl | exact (bI_1 (by omega)).symm | exact (bI_0 (by omega)).symm | exact (if_pos (by omega)).symm | exact (if_neg (by omega)).symm, rfl⟩
set_option maxRecDepth 100000 in
set_option maxHeartbeats 4000000 in
theorem c_X4_targetOf (l : Launch) (D : va_G) (kc : Nat → ClassId) (N : Nat) (adr : Nat → Nat) (cell : Nat → va_E) (r : Nat) (W T U : Nat → Int32) (n : Nat) (x : Int32) (hR : RowAt cell adr kc r W T U n) (hN : r + 4 ≤ N) : MI l yX4_targetOf wsX4_targetOf ({ frames := 0, cells := 0, slots := 0, locals := 0 }) D kc N adr cell [.ref (adr r), .int x] (fun v cell1 => v = atF 40 T x ∧ cell1 = cell) := by
  refine met_i (cc := cX4_targetOf) (maxL := 2) (ret := (some .int)) (by decide) rfl (Nat.le_of_ble_eq_true rfl) (lv := [(0, .ref (adr r)), (1, .int x)]) rfl ?_
  intro p e s m args below meth c A C hr hlk hnm
  have in4 : ∀ w ∈ u_ws RX4 TX4 4, w ∈ wsX4_targetOf := by decide +kernel
  have f15 := C.2.2.2.2.1 (.fieldLink RX4 15 "WordAnchors$Row" "targets" "[I") (by decide +kernel)
  obtain ⟨h0, h1, h2, h3, hn⟩ := hR
  have litm1 : ((-1) : Int32).toInt = -1 := rfl
  have lit0 : (0 : Int32).toInt = 0 := rfl
  have lit1 : (1 : Int32).toInt = 1 := rfl
  have lit40 : (40 : Int32).toInt = 40 := rfl
  have tn_n : (nI n).toInt = ((n : Nat) : Int) := nI_toInt (by omega)
  refine g_iload_n C 1 rfl dX4_targetOf_0 ?_
  refine g_if_lt C 22 (by decide) dX4_targetOf_1 (fun c1 => ?_) (fun c1 => ?_)
  · -- taken at 1
    have c1' := i_lt c1
    refine g_iconst C (-1) (by decide) dX4_targetOf_22 ?_
    refine g_iret C hr rfl hlk dX4_targetOf_23 ?_
    exact ⟨by first | rfl | exact (bI_1 (by omega)).symm | exact (bI_0 (by omega)).symm | exact (if_pos (by omega)).symm | exact (if_neg (by omega)).symm, rfl⟩
  · -- not taken at 1
    have c1' := i_nlt c1
    refine g_iload_n C 1 rfl dX4_targetOf_4 ?_
    refine g_aload_n C 0 rfl dX4_targetOf_5 ?_
    refine g_get C r 4 1 (by omega) h0 rfl in4 (by decide) f15 (fun _ h9 => h9) rfl dX4_targetOf_6 ?_
    refine g_alen C (r + 2) 0 (by omega) h2 rfl 40 rfl dX4_targetOf_9 ?_
    refine g_icmp_ge C 22 (by decide) dX4_targetOf_10 (fun c10 => ?_) (fun c10 => ?_)
    · -- taken at 10
      have c10' := i_le c10
      refine g_iconst C (-1) (by decide) dX4_targetOf_22 ?_
      refine g_iret C hr rfl hlk dX4_targetOf_23 ?_
      exact ⟨by first | rfl | exact (bI_1 (by omega)).symm | exact (bI_0 (by omega)).symm | exact (if_pos (by omega)).symm | exact (if_neg (by omega)).symm, rfl⟩
    · -- not taken at 10
      have c10' := i_nle c10
      refine g_aload_n C 0 rfl dX4_targetOf_13 ?_
      refine g_get C r 4 1 (by omega) h0 rfl in4 (by decide) f15 (fun _ h9 => h9) rfl dX4_targetOf_14 ?_
      refine g_iload_n C 1 rfl dX4_targetOf_17 ?_
      refine g_iald C (r + 2) (by omega) h2 (vp_in_iff.mpr (by omega)) dX4_targetOf_18 ?_
      refine g_goto C 23 (by decide) dX4_targetOf_19 ?_
      refine g_iret C hr rfl hlk dX4_targetOf_23 ?_
      exact ⟨by first | rfl | exact (bI_1 (by omega)).symm | exact (bI_0 (by omega)).symm | exact (if_pos (by omega)).symm | exact (if_neg (by omega)).symm, rfl⟩
