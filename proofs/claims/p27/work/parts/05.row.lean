set_option maxRecDepth 100000 in
set_option maxHeartbeats 4000000 in
theorem c_X4_size (l : Launch) (D : va_G) (kc : Nat → ClassId) (N : Nat) (adr : Nat → Nat) (cell : Nat → va_E) (r : Nat) (W T U : Nat → Int32) (n : Nat)  (hR : RowAt cell adr kc r W T U n) (hN : r + 4 ≤ N) : MI l yX4_size wsX4_size ({ frames := 0, cells := 0, slots := 0, locals := 0 }) D kc N adr cell [.ref (adr r)] (fun (v : Int32) (cell1 : Nat → va_E) => nI n = v ∧ cell = cell1) := by
  refine met_i (cc := cX4_size) (maxL := 1) (ret := (some .int)) (by decide) rfl (Nat.le_of_ble_eq_true rfl) (lv := [(0, .ref (adr r))]) rfl ?_
  intro Pg Ev Sv Mi args below Me Cd Ar C hr hlk hnm
  have in4 : ∀ w ∈ u_ws RX4 TX4 4, w ∈ wsX4_size := by decide +kernel
  have f21 := C.2.2.2.2.1 (.fieldLink RX4 21 "WordAnchors$Row" "size" "I") (by decide +kernel)
  obtain ⟨h0, h1, h2, h3, hn⟩ := hR
  have litm1 : ((-1) : Int32).toInt = -1 := rfl
  have lit0 : (0 : Int32).toInt = 0 := rfl
  have lit1 : (1 : Int32).toInt = 1 := rfl
  have tn_n : (nI n).toInt = ((n : Nat) : Int) := nI_toInt (by omega)
  refine g_aload_n C 0 rfl dX4_size_0 ?_
  refine g_get C r 4 3 (by omega) h0 rfl in4 (by decide) f21 (fun _ h9 => h9) rfl dX4_size_1 ?_
  refine g_iret C hr rfl hlk dX4_size_4 ?_
  exact ⟨by first | rfl | exact bI_1 (by omega) | exact bI_0 (by omega) | exact if_pos (by omega) | exact if_neg (by omega), rfl⟩
set_option maxRecDepth 100000 in
set_option maxHeartbeats 4000000 in
theorem c_X4_isFull (l : Launch) (D : va_G) (kc : Nat → ClassId) (N : Nat) (adr : Nat → Nat) (cell : Nat → va_E) (r : Nat) (W T U : Nat → Int32) (n : Nat)  (hR : RowAt cell adr kc r W T U n) (hN : r + 4 ≤ N) : MI l yX4_isFull wsX4_isFull ({ frames := 0, cells := 0, slots := 0, locals := 0 }) D kc N adr cell [.ref (adr r)] (fun (v : Int32) (cell1 : Nat → va_E) => bI (decide (40 ≤ n)) = v ∧ cell = cell1) := by
  refine met_i (cc := cX4_isFull) (maxL := 1) (ret := (some .boolean)) (by decide) rfl (Nat.le_of_ble_eq_true rfl) (lv := [(0, .ref (adr r))]) rfl ?_
  intro Pg Ev Sv Mi args below Me Cd Ar C hr hlk hnm
  have in4 : ∀ w ∈ u_ws RX4 TX4 4, w ∈ wsX4_isFull := by decide +kernel
  have f21 := C.2.2.2.2.1 (.fieldLink RX4 21 "WordAnchors$Row" "size" "I") (by decide +kernel)
  have f9 := C.2.2.2.2.1 (.fieldLink RX4 9 "WordAnchors$Row" "words" "[I") (by decide +kernel)
  obtain ⟨h0, h1, h2, h3, hn⟩ := hR
  have litm1 : ((-1) : Int32).toInt = -1 := rfl
  have lit0 : (0 : Int32).toInt = 0 := rfl
  have lit1 : (1 : Int32).toInt = 1 := rfl
  have lit40 : (40 : Int32).toInt = 40 := rfl
  have tn_n : (nI n).toInt = ((n : Nat) : Int) := nI_toInt (by omega)
  refine g_aload_n C 0 rfl dX4_isFull_0 ?_
  refine g_get C r 4 3 (by omega) h0 rfl in4 (by decide) f21 (fun _ h9 => h9) rfl dX4_isFull_1 ?_
  refine g_aload_n C 0 rfl dX4_isFull_4 ?_
  refine g_get C r 4 0 (by omega) h0 rfl in4 (by decide) f9 (fun _ h9 => h9) rfl dX4_isFull_5 ?_
  refine g_alen C (r + 1) 0 (by omega) h1 rfl 40 rfl dX4_isFull_8 ?_
  refine g_icmp_lt C 16 (by decide) dX4_isFull_9 (fun c9 => ?_) (fun c9 => ?_)
  · -- taken at 9
    have c9' := i_lt c9
    refine g_iconst C 0 (by decide) dX4_isFull_16 ?_
    refine g_iret C hr rfl hlk dX4_isFull_17 ?_
    exact ⟨by first | rfl | exact bI_1 (by omega) | exact bI_0 (by omega) | exact if_pos (by omega) | exact if_neg (by omega), rfl⟩
  · -- not taken at 9
    have c9' := i_nlt c9
    refine g_iconst C 1 (by decide) dX4_isFull_12 ?_
    refine g_goto C 17 (by decide) dX4_isFull_13 ?_
    refine g_iret C hr rfl hlk dX4_isFull_17 ?_
    exact ⟨by first | rfl | exact bI_1 (by omega) | exact bI_0 (by omega) | exact if_pos (by omega) | exact if_neg (by omega), rfl⟩
set_option maxRecDepth 100000 in
set_option maxHeartbeats 4000000 in
theorem c_X4_holds (l : Launch) (D : va_G) (kc : Nat → ClassId) (N : Nat) (adr : Nat → Nat) (cell : Nat → va_E) (r : Nat) (W T U : Nat → Int32) (n : Nat) (x : Int32) (hR : RowAt cell adr kc r W T U n) (hN : r + 4 ≤ N) : MI l yX4_holds wsX4_holds ({ frames := 0, cells := 0, slots := 0, locals := 0 }) D kc N adr cell [.ref (adr r), .int x] (fun (v : Int32) (cell1 : Nat → va_E) => bI (decide (0 ≤ x.toInt ∧ x.toInt < n)) = v ∧ cell = cell1) := by
  refine met_i (cc := cX4_holds) (maxL := 2) (ret := (some .boolean)) (by decide) rfl (Nat.le_of_ble_eq_true rfl) (lv := [(0, .ref (adr r)), (1, .int x)]) rfl ?_
  intro Pg Ev Sv Mi args below Me Cd Ar C hr hlk hnm
  have in4 : ∀ w ∈ u_ws RX4 TX4 4, w ∈ wsX4_holds := by decide +kernel
  have f21 := C.2.2.2.2.1 (.fieldLink RX4 21 "WordAnchors$Row" "size" "I") (by decide +kernel)
  have f9 := C.2.2.2.2.1 (.fieldLink RX4 9 "WordAnchors$Row" "words" "[I") (by decide +kernel)
  obtain ⟨h0, h1, h2, h3, hn⟩ := hR
  have litm1 : ((-1) : Int32).toInt = -1 := rfl
  have lit0 : (0 : Int32).toInt = 0 := rfl
  have lit1 : (1 : Int32).toInt = 1 := rfl
  have lit40 : (40 : Int32).toInt = 40 := rfl
  have tn_n : (nI n).toInt = ((n : Nat) : Int) := nI_toInt (by omega)
  refine g_iload_n C 1 rfl dX4_holds_0 ?_
  refine g_if_lt C 25 (by decide) dX4_holds_1 (fun c1 => ?_) (fun c1 => ?_)
  · -- taken at 1
    have c1' := i_lt c1
    refine g_iconst C 0 (by decide) dX4_holds_25 ?_
    refine g_iret C hr rfl hlk dX4_holds_26 ?_
    exact ⟨by first | rfl | exact bI_1 (by omega) | exact bI_0 (by omega) | exact if_pos (by omega) | exact if_neg (by omega), rfl⟩
  · -- not taken at 1
    have c1' := i_nlt c1
    refine g_iload_n C 1 rfl dX4_holds_4 ?_
    refine g_aload_n C 0 rfl dX4_holds_5 ?_
    refine g_get C r 4 3 (by omega) h0 rfl in4 (by decide) f21 (fun _ h9 => h9) rfl dX4_holds_6 ?_
    refine g_icmp_ge C 25 (by decide) dX4_holds_9 (fun c9 => ?_) (fun c9 => ?_)
    · -- taken at 9
      have c9' := i_le c9
      refine g_iconst C 0 (by decide) dX4_holds_25 ?_
      refine g_iret C hr rfl hlk dX4_holds_26 ?_
      exact ⟨by first | rfl | exact bI_1 (by omega) | exact bI_0 (by omega) | exact if_pos (by omega) | exact if_neg (by omega), rfl⟩
    · -- not taken at 9
      have c9' := i_nle c9
      refine g_iload_n C 1 rfl dX4_holds_12 ?_
      refine g_aload_n C 0 rfl dX4_holds_13 ?_
      refine g_get C r 4 0 (by omega) h0 rfl in4 (by decide) f9 (fun _ h9 => h9) rfl dX4_holds_14 ?_
      refine g_alen C (r + 1) 0 (by omega) h1 rfl 40 rfl dX4_holds_17 ?_
      refine g_icmp_ge C 25 (by decide) dX4_holds_18 (fun c18 => ?_) (fun c18 => ?_)
      · -- taken at 18
        have c18' := i_le c18
        refine g_iconst C 0 (by decide) dX4_holds_25 ?_
        refine g_iret C hr rfl hlk dX4_holds_26 ?_
        exact ⟨by first | rfl | exact bI_1 (by omega) | exact bI_0 (by omega) | exact if_pos (by omega) | exact if_neg (by omega), rfl⟩
      · -- not taken at 18
        have c18' := i_nle c18
        refine g_iconst C 1 (by decide) dX4_holds_21 ?_
        refine g_goto C 26 (by decide) dX4_holds_22 ?_
        refine g_iret C hr rfl hlk dX4_holds_26 ?_
        exact ⟨by first | rfl | exact bI_1 (by omega) | exact bI_0 (by omega) | exact if_pos (by omega) | exact if_neg (by omega), rfl⟩
set_option maxRecDepth 100000 in
set_option maxHeartbeats 4000000 in
theorem c_X4_takesAt (l : Launch) (D : va_G) (kc : Nat → ClassId) (N : Nat) (adr : Nat → Nat) (cell : Nat → va_E) (r : Nat) (W T U : Nat → Int32) (n : Nat) (x : Int32) (hR : RowAt cell adr kc r W T U n) (hN : r + 4 ≤ N) : MI l yX4_takesAt wsX4_takesAt ({ frames := 0, cells := 0, slots := 0, locals := 0 }) D kc N adr cell [.ref (adr r), .int x] (fun (v : Int32) (cell1 : Nat → va_E) => bI (decide (0 ≤ x.toInt ∧ x.toInt ≤ n)) = v ∧ cell = cell1) := by
  refine met_i (cc := cX4_takesAt) (maxL := 2) (ret := (some .boolean)) (by decide) rfl (Nat.le_of_ble_eq_true rfl) (lv := [(0, .ref (adr r)), (1, .int x)]) rfl ?_
  intro Pg Ev Sv Mi args below Me Cd Ar C hr hlk hnm
  have in4 : ∀ w ∈ u_ws RX4 TX4 4, w ∈ wsX4_takesAt := by decide +kernel
  have f21 := C.2.2.2.2.1 (.fieldLink RX4 21 "WordAnchors$Row" "size" "I") (by decide +kernel)
  obtain ⟨h0, h1, h2, h3, hn⟩ := hR
  have litm1 : ((-1) : Int32).toInt = -1 := rfl
  have lit0 : (0 : Int32).toInt = 0 := rfl
  have lit1 : (1 : Int32).toInt = 1 := rfl
  have tn_n : (nI n).toInt = ((n : Nat) : Int) := nI_toInt (by omega)
  refine g_iload_n C 1 rfl dX4_takesAt_0 ?_
  refine g_if_lt C 16 (by decide) dX4_takesAt_1 (fun c1 => ?_) (fun c1 => ?_)
  · -- taken at 1
    have c1' := i_lt c1
    refine g_iconst C 0 (by decide) dX4_takesAt_16 ?_
    refine g_iret C hr rfl hlk dX4_takesAt_17 ?_
    exact ⟨by first | rfl | exact bI_1 (by omega) | exact bI_0 (by omega) | exact if_pos (by omega) | exact if_neg (by omega), rfl⟩
  · -- not taken at 1
    have c1' := i_nlt c1
    refine g_iload_n C 1 rfl dX4_takesAt_4 ?_
    refine g_aload_n C 0 rfl dX4_takesAt_5 ?_
    refine g_get C r 4 3 (by omega) h0 rfl in4 (by decide) f21 (fun _ h9 => h9) rfl dX4_takesAt_6 ?_
    refine g_icmp_gt C 16 (by decide) dX4_takesAt_9 (fun c9 => ?_) (fun c9 => ?_)
    · -- taken at 9
      have c9' := i_lt c9
      refine g_iconst C 0 (by decide) dX4_takesAt_16 ?_
      refine g_iret C hr rfl hlk dX4_takesAt_17 ?_
      exact ⟨by first | rfl | exact bI_1 (by omega) | exact bI_0 (by omega) | exact if_pos (by omega) | exact if_neg (by omega), rfl⟩
    · -- not taken at 9
      have c9' := i_nlt c9
      refine g_iconst C 1 (by decide) dX4_takesAt_12 ?_
      refine g_goto C 17 (by decide) dX4_takesAt_13 ?_
      refine g_iret C hr rfl hlk dX4_takesAt_17 ?_
      exact ⟨by first | rfl | exact bI_1 (by omega) | exact bI_0 (by omega) | exact if_pos (by omega) | exact if_neg (by omega), rfl⟩
set_option maxRecDepth 100000 in
set_option maxHeartbeats 4000000 in
theorem c_X4_at (l : Launch) (D : va_G) (kc : Nat → ClassId) (N : Nat) (adr : Nat → Nat) (cell : Nat → va_E) (r : Nat) (W T U : Nat → Int32) (n : Nat) (x : Int32) (hR : RowAt cell adr kc r W T U n) (hN : r + 4 ≤ N) : MI l yX4_at wsX4_at ({ frames := 0, cells := 0, slots := 0, locals := 0 }) D kc N adr cell [.ref (adr r), .int x] (fun (v : Int32) (cell1 : Nat → va_E) => atF n W x = v ∧ cell = cell1) := by
  refine met_i (cc := cX4_at) (maxL := 2) (ret := (some .int)) (by decide) rfl (Nat.le_of_ble_eq_true rfl) (lv := [(0, .ref (adr r)), (1, .int x)]) rfl ?_
  intro Pg Ev Sv Mi args below Me Cd Ar C hr hlk hnm
  have in4 : ∀ w ∈ u_ws RX4 TX4 4, w ∈ wsX4_at := by decide +kernel
  have f21 := C.2.2.2.2.1 (.fieldLink RX4 21 "WordAnchors$Row" "size" "I") (by decide +kernel)
  have f9 := C.2.2.2.2.1 (.fieldLink RX4 9 "WordAnchors$Row" "words" "[I") (by decide +kernel)
  obtain ⟨h0, h1, h2, h3, hn⟩ := hR
  have litm1 : ((-1) : Int32).toInt = -1 := rfl
  have lit0 : (0 : Int32).toInt = 0 := rfl
  have lit1 : (1 : Int32).toInt = 1 := rfl
  have lit40 : (40 : Int32).toInt = 40 := rfl
  have tn_n : (nI n).toInt = ((n : Nat) : Int) := nI_toInt (by omega)
  refine g_iload_n C 1 rfl dX4_at_0 ?_
  refine g_if_lt C 30 (by decide) dX4_at_1 (fun c1 => ?_) (fun c1 => ?_)
  · -- taken at 1
    have c1' := i_lt c1
    refine g_iconst C (-1) (by decide) dX4_at_30 ?_
    refine g_iret C hr rfl hlk dX4_at_31 ?_
    exact ⟨by first | rfl | exact bI_1 (by omega) | exact bI_0 (by omega) | exact if_pos (by omega) | exact if_neg (by omega), rfl⟩
  · -- not taken at 1
    have c1' := i_nlt c1
    refine g_iload_n C 1 rfl dX4_at_4 ?_
    refine g_aload_n C 0 rfl dX4_at_5 ?_
    refine g_get C r 4 3 (by omega) h0 rfl in4 (by decide) f21 (fun _ h9 => h9) rfl dX4_at_6 ?_
    refine g_icmp_ge C 30 (by decide) dX4_at_9 (fun c9 => ?_) (fun c9 => ?_)
    · -- taken at 9
      have c9' := i_le c9
      refine g_iconst C (-1) (by decide) dX4_at_30 ?_
      refine g_iret C hr rfl hlk dX4_at_31 ?_
      exact ⟨by first | rfl | exact bI_1 (by omega) | exact bI_0 (by omega) | exact if_pos (by omega) | exact if_neg (by omega), rfl⟩
    · -- not taken at 9
      have c9' := i_nle c9
      refine g_iload_n C 1 rfl dX4_at_12 ?_
      refine g_aload_n C 0 rfl dX4_at_13 ?_
      refine g_get C r 4 0 (by omega) h0 rfl in4 (by decide) f9 (fun _ h9 => h9) rfl dX4_at_14 ?_
      refine g_alen C (r + 1) 0 (by omega) h1 rfl 40 rfl dX4_at_17 ?_
      refine g_icmp_ge C 30 (by decide) dX4_at_18 (fun c18 => ?_) (fun c18 => ?_)
      · -- taken at 18
        have c18' := i_le c18
        refine g_iconst C (-1) (by decide) dX4_at_30 ?_
        refine g_iret C hr rfl hlk dX4_at_31 ?_
        exact ⟨by first | rfl | exact bI_1 (by omega) | exact bI_0 (by omega) | exact if_pos (by omega) | exact if_neg (by omega), rfl⟩
      · -- not taken at 18
        have c18' := i_nle c18
        refine g_aload_n C 0 rfl dX4_at_21 ?_
        refine g_get C r 4 0 (by omega) h0 rfl in4 (by decide) f9 (fun _ h9 => h9) rfl dX4_at_22 ?_
        refine g_iload_n C 1 rfl dX4_at_25 ?_
        refine g_iald C (r + 1) (by omega) h1 (vp_in_iff.mpr (by omega)) dX4_at_26 ?_
        refine g_goto C 31 (by decide) dX4_at_27 ?_
        refine g_iret C hr rfl hlk dX4_at_31 ?_
        exact ⟨by first | rfl | exact bI_1 (by omega) | exact bI_0 (by omega) | exact if_pos (by omega) | exact if_neg (by omega), rfl⟩
set_option maxRecDepth 100000 in
set_option maxHeartbeats 4000000 in
theorem c_X4_targetOf (l : Launch) (D : va_G) (kc : Nat → ClassId) (N : Nat) (adr : Nat → Nat) (cell : Nat → va_E) (r : Nat) (W T U : Nat → Int32) (n : Nat) (x : Int32) (hR : RowAt cell adr kc r W T U n) (hN : r + 4 ≤ N) : MI l yX4_targetOf wsX4_targetOf ({ frames := 0, cells := 0, slots := 0, locals := 0 }) D kc N adr cell [.ref (adr r), .int x] (fun (v : Int32) (cell1 : Nat → va_E) => atF 40 T x = v ∧ cell = cell1) := by
  refine met_i (cc := cX4_targetOf) (maxL := 2) (ret := (some .int)) (by decide) rfl (Nat.le_of_ble_eq_true rfl) (lv := [(0, .ref (adr r)), (1, .int x)]) rfl ?_
  intro Pg Ev Sv Mi args below Me Cd Ar C hr hlk hnm
  have in4 : ∀ w ∈ u_ws RX4 TX4 4, w ∈ wsX4_targetOf := by decide +kernel
  have f15 := C.2.2.2.2.1 (.fieldLink RX4 15 "WordAnchors$Row" "targets" "[I") (by decide +kernel)
  obtain ⟨h0, h1, h2, h3, hn⟩ := hR
  have litm1 : ((-1) : Int32).toInt = -1 := rfl
  have lit0 : (0 : Int32).toInt = 0 := rfl
  have lit1 : (1 : Int32).toInt = 1 := rfl
  have lit40 : (40 : Int32).toInt = 40 := rfl
  have tn_n : (nI n).toInt = ((n : Nat) : Int) := nI_toInt (by omega)
  refine g_iload_n C 1 rfl dX4_targetOf_0 ?_
  refine g_if_lt C 22 (by decide) dX4_targetOf_1 (fun c1 => ?_) (fun c1 => ?_)
  · -- taken at 1
    have c1' := i_lt c1
    refine g_iconst C (-1) (by decide) dX4_targetOf_22 ?_
    refine g_iret C hr rfl hlk dX4_targetOf_23 ?_
    exact ⟨by first | rfl | exact bI_1 (by omega) | exact bI_0 (by omega) | exact if_pos (by omega) | exact if_neg (by omega), rfl⟩
  · -- not taken at 1
    have c1' := i_nlt c1
    refine g_iload_n C 1 rfl dX4_targetOf_4 ?_
    refine g_aload_n C 0 rfl dX4_targetOf_5 ?_
    refine g_get C r 4 1 (by omega) h0 rfl in4 (by decide) f15 (fun _ h9 => h9) rfl dX4_targetOf_6 ?_
    refine g_alen C (r + 2) 0 (by omega) h2 rfl 40 rfl dX4_targetOf_9 ?_
    refine g_icmp_ge C 22 (by decide) dX4_targetOf_10 (fun c10 => ?_) (fun c10 => ?_)
    · -- taken at 10
      have c10' := i_le c10
      refine g_iconst C (-1) (by decide) dX4_targetOf_22 ?_
      refine g_iret C hr rfl hlk dX4_targetOf_23 ?_
      exact ⟨by first | rfl | exact bI_1 (by omega) | exact bI_0 (by omega) | exact if_pos (by omega) | exact if_neg (by omega), rfl⟩
    · -- not taken at 10
      have c10' := i_nle c10
      refine g_aload_n C 0 rfl dX4_targetOf_13 ?_
      refine g_get C r 4 1 (by omega) h0 rfl in4 (by decide) f15 (fun _ h9 => h9) rfl dX4_targetOf_14 ?_
      refine g_iload_n C 1 rfl dX4_targetOf_17 ?_
      refine g_iald C (r + 2) (by omega) h2 (vp_in_iff.mpr (by omega)) dX4_targetOf_18 ?_
      refine g_goto C 23 (by decide) dX4_targetOf_19 ?_
      refine g_iret C hr rfl hlk dX4_targetOf_23 ?_
      exact ⟨by first | rfl | exact bI_1 (by omega) | exact bI_0 (by omega) | exact if_pos (by omega) | exact if_neg (by omega), rfl⟩
set_option maxRecDepth 100000 in
set_option maxHeartbeats 4000000 in
theorem c_X4_canShift (l : Launch) (D : va_G) (kc : Nat → ClassId) (N : Nat) (adr : Nat → Nat) (cell : Nat → va_E) (r : Nat) (W T U : Nat → Int32) (n : Nat) (f : Int32) (k : Int32) (t : Int32) (hR : RowAt cell adr kc r W T U n) (hN : r + 4 ≤ N) : MI l yX4_canShift wsX4_canShift ({ frames := 1, cells := 0, slots := 0, locals := 21 }) D kc N adr cell [.ref (adr r), .int f, .int k, .int t] (fun (v : Int32) (cell1 : Nat → va_E) => bI (decide (0 ≤ f.toInt ∧ f.toInt < n ∧ 1 ≤ k.toInt ∧ k.toInt ≤ n - f.toInt ∧ 0 ≤ t.toInt ∧ t.toInt ≤ n - k.toInt)) = v ∧ cell = cell1) := by
  refine met_i (cc := cX4_canShift) (maxL := 4) (ret := (some .boolean)) (by decide) rfl (Nat.le_of_ble_eq_true rfl) (lv := [(0, .ref (adr r)), (1, .int f), (2, .int k), (3, .int t)]) rfl ?_
  intro Pg Ev Sv Mi args below Me Cd Ar C hr hlk hnm
  have in4 : ∀ w ∈ u_ws RX4 TX4 4, w ∈ wsX4_canShift := by decide +kernel
  have f21 := C.2.2.2.2.1 (.fieldLink RX4 21 "WordAnchors$Row" "size" "I") (by decide +kernel)
  obtain ⟨h0, h1, h2, h3, hn⟩ := hR
  have litm1 : ((-1) : Int32).toInt = -1 := rfl
  have lit0 : (0 : Int32).toInt = 0 := rfl
  have lit1 : (1 : Int32).toInt = 1 := rfl
  have tn_n : (nI n).toInt = ((n : Nat) : Int) := nI_toInt (by omega)
  refine g_aload_n C 0 rfl dX4_canShift_0 ?_
  refine g_iload_n C 1 rfl dX4_canShift_1 ?_
  refine g_Vi C [.int f] r 4 (by omega) h0 rfl (c_X4_holds l D kc N adr cell r W T U n f ⟨h0, h1, h2, h3, by omega⟩ (by omega)) (cwV 1 C.2.2.2.2.1 gX4_canShift_X4_holds rfl rfl rfl (by decide +kernel) ⟨Nat.le_of_ble_eq_true rfl, Nat.le_of_ble_eq_true rfl⟩) rfl rfl (Nat.le_of_ble_eq_true rfl) (Nat.zero_le _) (Nat.zero_le _) dX4_canShift_2 (fun v1 cell1 q1 => ?_)
  obtain ⟨rfl, rfl⟩ := q1
  refine g_if_eq C 41 (by decide) dX4_canShift_5 (fun c5 => ?_) (fun c5 => ?_)
  · -- taken at 5
    have c5' := bI_f c5
    refine g_iconst C 0 (by decide) dX4_canShift_41 ?_
    refine g_iret C hr rfl hlk dX4_canShift_42 ?_
    exact ⟨by first | rfl | exact bI_1 (by omega) | exact bI_0 (by omega) | exact if_pos (by omega) | exact if_neg (by omega), rfl⟩
  · -- not taken at 5
    have c5' := bI_t c5
    refine g_iload_n C 2 rfl dX4_canShift_8 ?_
    refine g_iconst C 1 (by decide) dX4_canShift_9 ?_
    refine g_icmp_lt C 41 (by decide) dX4_canShift_10 (fun c10 => ?_) (fun c10 => ?_)
    · -- taken at 10
      have c10' := i_lt c10
      refine g_iconst C 0 (by decide) dX4_canShift_41 ?_
      refine g_iret C hr rfl hlk dX4_canShift_42 ?_
      exact ⟨by first | rfl | exact bI_1 (by omega) | exact bI_0 (by omega) | exact if_pos (by omega) | exact if_neg (by omega), rfl⟩
    · -- not taken at 10
      have c10' := i_nlt c10
      refine g_iload_n C 2 rfl dX4_canShift_13 ?_
      refine g_aload_n C 0 rfl dX4_canShift_14 ?_
      refine g_get C r 4 3 (by omega) h0 rfl in4 (by decide) f21 (fun _ h9 => h9) rfl dX4_canShift_15 ?_
      refine g_iload_n C 1 rfl dX4_canShift_18 ?_
      refine g_isub C dX4_canShift_19 ?_
      have ta_2 : ((nI n) - f).toInt = (nI n).toInt - f.toInt := t_sub (by omega) (by omega)
      refine g_icmp_gt C 41 (by decide) dX4_canShift_20 (fun c20 => ?_) (fun c20 => ?_)
      · -- taken at 20
        have c20' := i_lt c20
        refine g_iconst C 0 (by decide) dX4_canShift_41 ?_
        refine g_iret C hr rfl hlk dX4_canShift_42 ?_
        exact ⟨by first | rfl | exact bI_1 (by omega) | exact bI_0 (by omega) | exact if_pos (by omega) | exact if_neg (by omega), rfl⟩
      · -- not taken at 20
        have c20' := i_nlt c20
        refine g_iload_n C 3 rfl dX4_canShift_23 ?_
        refine g_if_lt C 41 (by decide) dX4_canShift_24 (fun c24 => ?_) (fun c24 => ?_)
        · -- taken at 24
          have c24' := i_lt c24
          refine g_iconst C 0 (by decide) dX4_canShift_41 ?_
          refine g_iret C hr rfl hlk dX4_canShift_42 ?_
          exact ⟨by first | rfl | exact bI_1 (by omega) | exact bI_0 (by omega) | exact if_pos (by omega) | exact if_neg (by omega), rfl⟩
        · -- not taken at 24
          have c24' := i_nlt c24
          refine g_iload_n C 3 rfl dX4_canShift_27 ?_
          refine g_aload_n C 0 rfl dX4_canShift_28 ?_
          refine g_get C r 4 3 (by omega) h0 rfl in4 (by decide) f21 (fun _ h9 => h9) rfl dX4_canShift_29 ?_
          refine g_iload_n C 2 rfl dX4_canShift_32 ?_
          refine g_isub C dX4_canShift_33 ?_
          have ta_3 : ((nI n) - k).toInt = (nI n).toInt - k.toInt := t_sub (by omega) (by omega)
          refine g_icmp_gt C 41 (by decide) dX4_canShift_34 (fun c34 => ?_) (fun c34 => ?_)
          · -- taken at 34
            have c34' := i_lt c34
            refine g_iconst C 0 (by decide) dX4_canShift_41 ?_
            refine g_iret C hr rfl hlk dX4_canShift_42 ?_
            exact ⟨by first | rfl | exact bI_1 (by omega) | exact bI_0 (by omega) | exact if_pos (by omega) | exact if_neg (by omega), rfl⟩
          · -- not taken at 34
            have c34' := i_nlt c34
            refine g_iconst C 1 (by decide) dX4_canShift_37 ?_
            refine g_goto C 42 (by decide) dX4_canShift_38 ?_
            refine g_iret C hr rfl hlk dX4_canShift_42 ?_
            exact ⟨by first | rfl | exact bI_1 (by omega) | exact bI_0 (by omega) | exact if_pos (by omega) | exact if_neg (by omega), rfl⟩
set_option maxRecDepth 100000 in
set_option maxHeartbeats 4000000 in
theorem c_X4_placeAfterShift (l : Launch) (D : va_G) (kc : Nat → ClassId) (N : Nat) (adr : Nat → Nat) (cell : Nat → va_E) (f k t q : Nat) (hb : q < 40 ∧ f + k ≤ 40 ∧ t + k ≤ 40) : MI l yX4_placeAfterShift wsX4_placeAfterShift ({ frames := 0, cells := 0, slots := 0, locals := 0 }) D kc N adr cell [.int (nI q), .int (nI f), .int (nI k), .int (nI t)] (fun (v : Int32) (cell1 : Nat → va_E) => nI (pasF f k t q) = v ∧ cell = cell1) := by
  refine met_i (cc := cX4_placeAfterShift) (maxL := 5) (ret := (some .int)) (by decide) rfl (Nat.le_of_ble_eq_true rfl) (lv := [(0, .int (nI q)), (1, .int (nI f)), (2, .int (nI k)), (3, .int (nI t))]) rfl ?_
  intro Pg Ev Sv Mi args below Me Cd Ar C hr hlk hnm
  obtain ⟨hb1, hb2, hb3⟩ := hb
  have litm1 : ((-1) : Int32).toInt = -1 := rfl
  have lit0 : (0 : Int32).toInt = 0 := rfl
  have lit1 : (1 : Int32).toInt = 1 := rfl
  have tn_q : (nI q).toInt = ((q : Nat) : Int) := nI_toInt (by omega)
  have tn_f : (nI f).toInt = ((f : Nat) : Int) := nI_toInt (by omega)
  have tn_k : (nI k).toInt = ((k : Nat) : Int) := nI_toInt (by omega)
  have tn_t : (nI t).toInt = ((t : Nat) : Int) := nI_toInt (by omega)
  refine g_iload_n C 0 rfl dX4_placeAfterShift_0 ?_
  refine g_iload_n C 1 rfl dX4_placeAfterShift_1 ?_
  refine g_icmp_lt C 18 (by decide) dX4_placeAfterShift_2 (fun c2 => ?_) (fun c2 => ?_)
  · -- taken at 2
    have c2' := i_lt c2
    refine g_iload_n C 0 rfl dX4_placeAfterShift_18 ?_
    refine g_iload_n C 1 rfl dX4_placeAfterShift_19 ?_
    refine g_icmp_ge C 27 (by decide) dX4_placeAfterShift_20 (fun c20 => ?_) (fun c20 => ?_)
    · -- taken at 20
      have c20' := i_le c20
      refine g_iload_n C 0 rfl dX4_placeAfterShift_27 ?_
      refine g_iload_n C 2 rfl dX4_placeAfterShift_28 ?_
      refine g_isub C dX4_placeAfterShift_29 ?_
      have ta_1 : ((nI q) - (nI k)).toInt = (nI q).toInt - (nI k).toInt := t_sub (by omega) (by omega)
      refine g_istore C [(4, .int ((nI q) - (nI k))), (0, .int (nI q)), (1, .int (nI f)), (2, .int (nI k)), (3, .int (nI t))] (by decide) rfl dX4_placeAfterShift_30 ?_
      refine g_iload C 0 rfl dX4_placeAfterShift_32 ?_
      refine g_iload_n C 4 rfl dX4_placeAfterShift_34 ?_
      refine g_icmp_ge C 43 (by decide) dX4_placeAfterShift_35 (fun c35 => ?_) (fun c35 => ?_)
      · -- taken at 35
        have c35' := i_le c35
        refine g_iload C 0 rfl dX4_placeAfterShift_43 ?_
        refine g_iload_n C 3 rfl dX4_placeAfterShift_45 ?_
        refine g_iadd C dX4_placeAfterShift_46 ?_
        have ta_2 : (((nI q) - (nI k)) + (nI k)).toInt = ((nI q) - (nI k)).toInt + (nI k).toInt := t_add (by omega) (by omega)
        refine g_iret C hr rfl hlk dX4_placeAfterShift_47 ?_
        have hp : pasF f k t q < 40 := by unfold pasF; (repeat' split) <;> omega
        exact ⟨i_inj (by rw [nI_toInt (n := pasF f k t q) (by omega)]; unfold pasF; (repeat' split) <;> omega), rfl⟩
      · -- not taken at 35
        have c35' := i_nle c35
        refine g_iload C 0 rfl dX4_placeAfterShift_38 ?_
        refine g_goto C 47 (by decide) dX4_placeAfterShift_40 ?_
        refine g_iret C hr rfl hlk dX4_placeAfterShift_47 ?_
        have hp : pasF f k t q < 40 := by unfold pasF; (repeat' split) <;> omega
        exact ⟨i_inj (by rw [nI_toInt (n := pasF f k t q) (by omega)]; unfold pasF; (repeat' split) <;> omega), rfl⟩
    · -- not taken at 20
      have c20' := i_nle c20
      refine g_iload_n C 0 rfl dX4_placeAfterShift_23 ?_
      refine g_goto C 30 (by decide) dX4_placeAfterShift_24 ?_
      refine g_istore C [(4, .int (nI q)), (0, .int (nI q)), (1, .int (nI f)), (2, .int (nI k)), (3, .int (nI t))] (by decide) rfl dX4_placeAfterShift_30 ?_
      refine g_iload C 0 rfl dX4_placeAfterShift_32 ?_
      refine g_iload_n C 4 rfl dX4_placeAfterShift_34 ?_
      refine g_icmp_ge C 43 (by decide) dX4_placeAfterShift_35 (fun c35 => ?_) (fun c35 => ?_)
      · -- taken at 35
        have c35' := i_le c35
        refine g_iload C 0 rfl dX4_placeAfterShift_43 ?_
        refine g_iload_n C 3 rfl dX4_placeAfterShift_45 ?_
        refine g_iadd C dX4_placeAfterShift_46 ?_
        have ta_3 : ((nI q) + (nI k)).toInt = (nI q).toInt + (nI k).toInt := t_add (by omega) (by omega)
        refine g_iret C hr rfl hlk dX4_placeAfterShift_47 ?_
        have hp : pasF f k t q < 40 := by unfold pasF; (repeat' split) <;> omega
        exact ⟨i_inj (by rw [nI_toInt (n := pasF f k t q) (by omega)]; unfold pasF; (repeat' split) <;> omega), rfl⟩
      · -- not taken at 35
        have c35' := i_nle c35
        refine g_iload C 0 rfl dX4_placeAfterShift_38 ?_
        refine g_goto C 47 (by decide) dX4_placeAfterShift_40 ?_
        refine g_iret C hr rfl hlk dX4_placeAfterShift_47 ?_
        have hp : pasF f k t q < 40 := by unfold pasF; (repeat' split) <;> omega
        exact ⟨i_inj (by rw [nI_toInt (n := pasF f k t q) (by omega)]; unfold pasF; (repeat' split) <;> omega), rfl⟩
  · -- not taken at 2
    have c2' := i_nlt c2
    refine g_iload_n C 0 rfl dX4_placeAfterShift_5 ?_
    refine g_iload_n C 1 rfl dX4_placeAfterShift_6 ?_
    refine g_iload_n C 2 rfl dX4_placeAfterShift_7 ?_
    refine g_iadd C dX4_placeAfterShift_8 ?_
    have ta_4 : ((nI f) + (nI k)).toInt = (nI f).toInt + (nI k).toInt := t_add (by omega) (by omega)
    refine g_icmp_ge C 18 (by decide) dX4_placeAfterShift_9 (fun c9 => ?_) (fun c9 => ?_)
    · -- taken at 9
      have c9' := i_le c9
      refine g_iload_n C 0 rfl dX4_placeAfterShift_18 ?_
      refine g_iload_n C 1 rfl dX4_placeAfterShift_19 ?_
      refine g_icmp_ge C 27 (by decide) dX4_placeAfterShift_20 (fun c20 => ?_) (fun c20 => ?_)
      · -- taken at 20
        have c20' := i_le c20
        refine g_iload_n C 0 rfl dX4_placeAfterShift_27 ?_
        refine g_iload_n C 2 rfl dX4_placeAfterShift_28 ?_
        refine g_isub C dX4_placeAfterShift_29 ?_
        have ta_5 : ((nI q) - (nI k)).toInt = (nI q).toInt - (nI k).toInt := t_sub (by omega) (by omega)
        refine g_istore C [(4, .int ((nI q) - (nI k))), (0, .int (nI q)), (1, .int (nI f)), (2, .int (nI k)), (3, .int (nI t))] (by decide) rfl dX4_placeAfterShift_30 ?_
        refine g_iload C 0 rfl dX4_placeAfterShift_32 ?_
        refine g_iload_n C 4 rfl dX4_placeAfterShift_34 ?_
        refine g_icmp_ge C 43 (by decide) dX4_placeAfterShift_35 (fun c35 => ?_) (fun c35 => ?_)
        · -- taken at 35
          have c35' := i_le c35
          refine g_iload C 0 rfl dX4_placeAfterShift_43 ?_
          refine g_iload_n C 3 rfl dX4_placeAfterShift_45 ?_
          refine g_iadd C dX4_placeAfterShift_46 ?_
          have ta_6 : (((nI q) - (nI k)) + (nI k)).toInt = ((nI q) - (nI k)).toInt + (nI k).toInt := t_add (by omega) (by omega)
          refine g_iret C hr rfl hlk dX4_placeAfterShift_47 ?_
          have hp : pasF f k t q < 40 := by unfold pasF; (repeat' split) <;> omega
          exact ⟨i_inj (by rw [nI_toInt (n := pasF f k t q) (by omega)]; unfold pasF; (repeat' split) <;> omega), rfl⟩
        · -- not taken at 35
          have c35' := i_nle c35
          refine g_iload C 0 rfl dX4_placeAfterShift_38 ?_
          refine g_goto C 47 (by decide) dX4_placeAfterShift_40 ?_
          refine g_iret C hr rfl hlk dX4_placeAfterShift_47 ?_
          have hp : pasF f k t q < 40 := by unfold pasF; (repeat' split) <;> omega
          exact ⟨i_inj (by rw [nI_toInt (n := pasF f k t q) (by omega)]; unfold pasF; (repeat' split) <;> omega), rfl⟩
      · -- not taken at 20
        have c20' := i_nle c20
        refine g_iload_n C 0 rfl dX4_placeAfterShift_23 ?_
        refine g_goto C 30 (by decide) dX4_placeAfterShift_24 ?_
        refine g_istore C [(4, .int (nI q)), (0, .int (nI q)), (1, .int (nI f)), (2, .int (nI k)), (3, .int (nI t))] (by decide) rfl dX4_placeAfterShift_30 ?_
        refine g_iload C 0 rfl dX4_placeAfterShift_32 ?_
        refine g_iload_n C 4 rfl dX4_placeAfterShift_34 ?_
        refine g_icmp_ge C 43 (by decide) dX4_placeAfterShift_35 (fun c35 => ?_) (fun c35 => ?_)
        · -- taken at 35
          have c35' := i_le c35
          refine g_iload C 0 rfl dX4_placeAfterShift_43 ?_
          refine g_iload_n C 3 rfl dX4_placeAfterShift_45 ?_
          refine g_iadd C dX4_placeAfterShift_46 ?_
          have ta_7 : ((nI q) + (nI k)).toInt = (nI q).toInt + (nI k).toInt := t_add (by omega) (by omega)
          refine g_iret C hr rfl hlk dX4_placeAfterShift_47 ?_
          have hp : pasF f k t q < 40 := by unfold pasF; (repeat' split) <;> omega
          exact ⟨i_inj (by rw [nI_toInt (n := pasF f k t q) (by omega)]; unfold pasF; (repeat' split) <;> omega), rfl⟩
        · -- not taken at 35
          have c35' := i_nle c35
          refine g_iload C 0 rfl dX4_placeAfterShift_38 ?_
          refine g_goto C 47 (by decide) dX4_placeAfterShift_40 ?_
          refine g_iret C hr rfl hlk dX4_placeAfterShift_47 ?_
          have hp : pasF f k t q < 40 := by unfold pasF; (repeat' split) <;> omega
          exact ⟨i_inj (by rw [nI_toInt (n := pasF f k t q) (by omega)]; unfold pasF; (repeat' split) <;> omega), rfl⟩
    · -- not taken at 9
      have c9' := i_nle c9
      refine g_iload_n C 0 rfl dX4_placeAfterShift_12 ?_
      refine g_iload_n C 1 rfl dX4_placeAfterShift_13 ?_
      refine g_isub C dX4_placeAfterShift_14 ?_
      have ta_8 : ((nI q) - (nI f)).toInt = (nI q).toInt - (nI f).toInt := t_sub (by omega) (by omega)
      refine g_iload_n C 3 rfl dX4_placeAfterShift_15 ?_
      refine g_iadd C dX4_placeAfterShift_16 ?_
      have ta_9 : (((nI q) - (nI f)) + (nI t)).toInt = ((nI q) - (nI f)).toInt + (nI t).toInt := t_add (by omega) (by omega)
      refine g_iret C hr rfl hlk dX4_placeAfterShift_17 ?_
      have hp : pasF f k t q < 40 := by unfold pasF; (repeat' split) <;> omega
      exact ⟨i_inj (by rw [nI_toInt (n := pasF f k t q) (by omega)]; unfold pasF; (repeat' split) <;> omega), rfl⟩
set_option maxRecDepth 100000 in
set_option maxHeartbeats 4000000 in
theorem c_X4_write (l : Launch) (D : va_G) (kc : Nat → ClassId) (N : Nat) (adr : Nat → Nat) (cell : Nat → va_E) (r : Nat) (W T U : Nat → Int32) (n : Nat) (q : Nat) (w : Int32) (hR : RowAt cell adr kc r W T U n) (hN : r + 4 ≤ N) (hq : q < 40) : MV l yX4_write wsX4_write ({ frames := 0, cells := 0, slots := 0, locals := 0 }) D kc N adr cell [.ref (adr r), .int (nI q), .int w] (fun (cell1 : Nat → va_E) => RowAt cell1 adr kc r (upd W q w) T U n ∧ ∀ j : Nat, (j < r ∨ r + 4 ≤ j) → cell1 j = cell j) := by
  refine met_v (cc := cX4_write) (maxL := 3) (ret := none) (by decide) rfl (Nat.le_of_ble_eq_true rfl) (lv := [(0, .ref (adr r)), (1, .int (nI q)), (2, .int w)]) rfl ?_
  intro Pg Ev Sv Mi args below Me Cd Ar C hr hlk hnm
  have in4 : ∀ w ∈ u_ws RX4 TX4 4, w ∈ wsX4_write := by decide +kernel
  have f9 := C.2.2.2.2.1 (.fieldLink RX4 9 "WordAnchors$Row" "words" "[I") (by decide +kernel)
  obtain ⟨h0, h1, h2, h3, hn⟩ := hR
  have litm1 : ((-1) : Int32).toInt = -1 := rfl
  have lit0 : (0 : Int32).toInt = 0 := rfl
  have lit1 : (1 : Int32).toInt = 1 := rfl
  have lit40 : (40 : Int32).toInt = 40 := rfl
  have tn_n : (nI n).toInt = ((n : Nat) : Int) := nI_toInt (by omega)
  have tn_q : (nI q).toInt = ((q : Nat) : Int) := nI_toInt (by omega)
  refine g_iload_n C 1 rfl dX4_write_0 ?_
  refine g_if_lt C 20 (by decide) dX4_write_1 (fun c1 => ?_) (fun c1 => ?_)
  · -- taken at 1
    have c1' := i_lt c1
    exfalso; omega
  · -- not taken at 1
    have c1' := i_nlt c1
    refine g_iload_n C 1 rfl dX4_write_4 ?_
    refine g_aload_n C 0 rfl dX4_write_5 ?_
    refine g_get C r 4 0 (by omega) h0 rfl in4 (by decide) f9 (fun _ h9 => h9) rfl dX4_write_6 ?_
    refine g_alen C (r + 1) 0 (by omega) h1 rfl 40 rfl dX4_write_9 ?_
    refine g_icmp_ge C 20 (by decide) dX4_write_10 (fun c10 => ?_) (fun c10 => ?_)
    · -- taken at 10
      have c10' := i_le c10
      exfalso; omega
    · -- not taken at 10
      have c10' := i_nle c10
      refine g_aload_n C 0 rfl dX4_write_13 ?_
      refine g_get C r 4 0 (by omega) h0 rfl in4 (by decide) f9 (fun _ h9 => h9) rfl dX4_write_14 ?_
      refine g_iload_n C 1 rfl dX4_write_17 ?_
      refine g_iload_n C 2 rfl dX4_write_18 ?_
      refine g_iast C (r + 1) (by omega) h1 (vp_in_nI (by omega) (by omega)) dX4_write_19 ?_
      refine g_cell (fun cell1 ec1 => ?_)
      have h_2 : cell1 r = .inr (4, [.ref (adr (r + 1)), .ref (adr (r + 2)), .ref (adr (r + 3)), .int (nI n)]) := by rw [ec1, va_up_ne _ _ (by omega)]; exact h0
      have h_3 : cell1 (r + 1) = .inl (kc 0, 40, .inl (upd W (nI q).toNatClampNeg w)) := by rw [ec1]; exact va_up_self _ _ _
      have h_4 : cell1 (r + 2) = .inl (kc 0, 40, .inl T) := by rw [ec1, va_up_ne _ _ (by omega)]; exact h2
      have h_5 : cell1 (r + 3) = .inl (kc 0, 40, .inl U) := by rw [ec1, va_up_ne _ _ (by omega)]; exact h3
      have fr_6 : ∀ j : Nat, (j < r ∨ r + 4 ≤ j) → cell1 j = cell j := fun j hj => by rw [ec1, va_up_ne _ _ (by omega)]
      have h_7 : cell1 (r + 1) = .inl (kc 0, 40, .inl (upd W q w)) := by rw [h_3, nI_clamp (by omega)]
      refine g_vret C hr hlk dX4_write_20 ?_
      exact ⟨⟨h_2, h_7, h_4, h_5, by omega⟩, fr_6⟩
set_option maxRecDepth 100000 in
set_option maxHeartbeats 4000000 in
theorem c_X4_relocate (l : Launch) (D : va_G) (kc : Nat → ClassId) (N : Nat) (adr : Nat → Nat) (cell : Nat → va_E) (r : Nat) (W T U : Nat → Int32) (n : Nat) (k : Nat) (hR : RowAt cell adr kc r W T U n) (hN : r + 4 ≤ N) (hk : k ≤ 40) : MV l yX4_relocate wsX4_relocate ({ frames := 1, cells := 0, slots := 0, locals := 22 }) D kc N adr cell [.ref (adr r), .int (nI k)] (fun (cell1 : Nat → va_E) => RowAt cell1 adr kc r (fill (rlF W T U n) W k) T (rlF W T U n) k ∧ ∀ j : Nat, (j < r ∨ r + 4 ≤ j) → cell1 j = cell j) := by
  refine met_v (cc := cX4_relocate) (maxL := 4) (ret := none) (by decide) rfl (Nat.le_of_ble_eq_true rfl) (lv := [(0, .ref (adr r)), (1, .int (nI k))]) rfl ?_
  intro Pg Ev Sv Mi args below Me Cd Ar C hr hlk hnm
  have in4 : ∀ w ∈ u_ws RX4 TX4 4, w ∈ wsX4_relocate := by decide +kernel
  have f21 := C.2.2.2.2.1 (.fieldLink RX4 21 "WordAnchors$Row" "size" "I") (by decide +kernel)
  have f18 := C.2.2.2.2.1 (.fieldLink RX4 18 "WordAnchors$Row" "relocated" "[I") (by decide +kernel)
  have f9 := C.2.2.2.2.1 (.fieldLink RX4 9 "WordAnchors$Row" "words" "[I") (by decide +kernel)
  obtain ⟨h0, h1, h2, h3, hn⟩ := hR
  have litm1 : ((-1) : Int32).toInt = -1 := rfl
  have lit0 : (0 : Int32).toInt = 0 := rfl
  have lit1 : (1 : Int32).toInt = 1 := rfl
  have lit40 : (40 : Int32).toInt = 40 := rfl
  have tn_n : (nI n).toInt = ((n : Nat) : Int) := nI_toInt (by omega)
  have tn_k : (nI k).toInt = ((k : Nat) : Int) := nI_toInt (by omega)
  refine g_iconst C 0 (by decide) dX4_relocate_0 ?_
  refine g_istore_n C [(2, .int 0), (0, .ref (adr r)), (1, .int (nI k))] (by decide) rfl dX4_relocate_1 ?_
  have L2 : ∀ (fu i : Nat) (cl : Nat → va_E) , i ≤ n → n < i + fu → (g0 : cl r = .inr (4, [.ref (adr (r + 1)), .ref (adr (r + 2)), .ref (adr (r + 3)), .int (nI n)])) → (g1 : cl (r + 1) = .inl (kc 0, 40, .inl W)) → (g2 : cl (r + 2) = .inl (kc 0, 40, .inl T)) → (g3 : cl (r + 3) = .inl (kc 0, 40, .inl (rlF W T U i))) → (frl2 : ∀ j : Nat, (j < r ∨ r + 4 ≤ j) → cl j = cell j) → G Pg l Ev (headSpec wsX4_relocate { frames := 1, cells := 0, slots := 0, locals := 22 }).room Sv Mi args below Me Cd D N adr Ar Sv.heap 4 0 0 (MQ below (va_Qv (fun (cell1 : Nat → va_E) => RowAt cell1 adr kc r (fill (rlF W T U n) W k) T (rlF W T U n) k ∧ ∀ j : Nat, (j < r ∨ r + 4 ≤ j) → cell1 j = cell j) (fun (cell1 : Nat → va_E) (t : State) => va_P D vwCl (wld N adr cell1) t.heap) Ar) args Sv 0 0 Ar) cl 2 [(0, .ref (adr r)), (1, .int (nI k)), (2, .int (nI i))] ([] : List Value) := by
    intro fu
    induction fu with
    | zero => intro i cl  hle hfu; exact absurd hfu (by omega)
    | succ fu ih =>
      intro i cl  hle2 hfu2 g0 g1 g2 g3 frl2 
      have tn_i : (nI i).toInt = ((i : Nat) : Int) := nI_toInt (by omega)
      refine g_iload_n C 2 rfl dX4_relocate_2 ?_
      refine g_aload_n C 0 rfl dX4_relocate_3 ?_
      refine g_get C r 4 3 (by omega) g0 rfl in4 (by decide) f21 (fun _ h9 => h9) rfl dX4_relocate_4 ?_
      refine g_icmp_ge C 56 (by decide) dX4_relocate_7 (fun c7 => ?_) (fun c7 => ?_)
      · -- taken at 7
        have c7' := i_le c7
        refine g_iconst C 0 (by decide) dX4_relocate_56 ?_
        refine g_istore_n C [(2, .int 0), (0, .ref (adr r)), (1, .int (nI k))] (by decide) rfl dX4_relocate_57 ?_
        have L58 : ∀ (fu i2 : Nat) (cm : Nat → va_E) , i2 ≤ k → k < i2 + fu → (g4 : cm r = .inr (4, [.ref (adr (r + 1)), .ref (adr (r + 2)), .ref (adr (r + 3)), .int (nI n)])) → (g5 : cm (r + 1) = .inl (kc 0, 40, .inl (fill (rlF W T U n) W i2))) → (g6 : cm (r + 2) = .inl (kc 0, 40, .inl T)) → (g7 : cm (r + 3) = .inl (kc 0, 40, .inl (rlF W T U n))) → (frl58 : ∀ j : Nat, (j < r ∨ r + 4 ≤ j) → cm j = cell j) → G Pg l Ev (headSpec wsX4_relocate { frames := 1, cells := 0, slots := 0, locals := 22 }).room Sv Mi args below Me Cd D N adr Ar Sv.heap 4 0 0 (MQ below (va_Qv (fun (cell1 : Nat → va_E) => RowAt cell1 adr kc r (fill (rlF W T U n) W k) T (rlF W T U n) k ∧ ∀ j : Nat, (j < r ∨ r + 4 ≤ j) → cell1 j = cell j) (fun (cell1 : Nat → va_E) (t : State) => va_P D vwCl (wld N adr cell1) t.heap) Ar) args Sv 0 0 Ar) cm 58 [(0, .ref (adr r)), (1, .int (nI k)), (2, .int (nI i2))] ([] : List Value) := by
          intro fu
          induction fu with
          | zero => intro i2 cm  hle hfu; exact absurd hfu (by omega)
          | succ fu ih =>
            intro i2 cm  hle58 hfu58 g4 g5 g6 g7 frl58 
            have tn_i2 : (nI i2).toInt = ((i2 : Nat) : Int) := nI_toInt (by omega)
            refine g_iload_n C 2 rfl dX4_relocate_58 ?_
            refine g_iload_n C 1 rfl dX4_relocate_59 ?_
            refine g_icmp_ge C 89 (by decide) dX4_relocate_60 (fun c60 => ?_) (fun c60 => ?_)
            · -- taken at 60
              have c60' := i_le c60
              obtain rfl : k = i2 := by omega
              refine g_aload_n C 0 rfl dX4_relocate_89 ?_
              refine g_iload_n C 1 rfl dX4_relocate_90 ?_
              refine g_put C r 4 3 (by omega) g4 rfl in4 tyX4 tyX4_ok nmX4 (by decide) f21 (fun _ h9 => h9) rfl (ty := .int) (by decide +kernel) rfl rfl (Nat.le_of_ble_eq_true rfl) dX4_relocate_91 ?_
              refine g_cell (fun cell1 ec1 => ?_)
              have h_2 : cell1 r = .inr (4, [.ref (adr (r + 1)), .ref (adr (r + 2)), .ref (adr (r + 3)), .int (nI k)]) := by rw [ec1]; exact va_up_self _ _ _
              have h_3 : cell1 (r + 1) = .inl (kc 0, 40, .inl (fill (rlF W T U n) W k)) := by rw [ec1, va_up_ne _ _ (by omega)]; exact g5
              have h_4 : cell1 (r + 2) = .inl (kc 0, 40, .inl T) := by rw [ec1, va_up_ne _ _ (by omega)]; exact g6
              have h_5 : cell1 (r + 3) = .inl (kc 0, 40, .inl (rlF W T U n)) := by rw [ec1, va_up_ne _ _ (by omega)]; exact g7
              have fr_6 : ∀ j : Nat, (j < r ∨ r + 4 ≤ j) → cell1 j = cell j := fun j hj => by rw [ec1, va_up_ne _ _ (by omega)]; exact frl58 j hj
              refine g_vret C hr hlk dX4_relocate_94 ?_
              exact ⟨⟨h_2, h_3 , h_4, h_5, by omega⟩, fr_6⟩
            · -- not taken at 60
              have c60' := i_nle c60
              refine g_iload_n C 2 rfl dX4_relocate_63 ?_
              refine g_aload_n C 0 rfl dX4_relocate_64 ?_
              refine g_get C r 4 2 (by omega) g4 rfl in4 (by decide) f18 (fun _ h9 => h9) rfl dX4_relocate_65 ?_
              refine g_alen C (r + 3) 0 (by omega) g7 rfl 40 rfl dX4_relocate_68 ?_
              refine g_icmp_ge C 89 (by decide) dX4_relocate_69 (fun c69 => ?_) (fun c69 => ?_)
              · -- taken at 69
                have c69' := i_le c69
                exfalso; omega
              · -- not taken at 69
                have c69' := i_nle c69
                refine g_aload_n C 0 rfl dX4_relocate_72 ?_
                refine g_iload_n C 2 rfl dX4_relocate_73 ?_
                refine g_aload_n C 0 rfl dX4_relocate_74 ?_
                refine g_get C r 4 2 (by omega) g4 rfl in4 (by decide) f18 (fun _ h9 => h9) rfl dX4_relocate_75 ?_
                refine g_iload_n C 2 rfl dX4_relocate_78 ?_
                refine g_iald C (r + 3) (by omega) g7 (vp_in_nI (by omega) (by omega)) dX4_relocate_79 ?_
                refine g_eqst (show ([.int ((rlF W T U n) (nI i2).toNatClampNeg), .int (nI i2), .ref (adr r)] : List Value) = ([.int ((rlF W T U n) i2), .int (nI i2), .ref (adr r)] : List Value) from by rw [nI_clamp (by omega)]) ?_
                refine g_Vv C [.int (nI i2), .int ((rlF W T U n) i2)] r 4 (by omega) g4 rfl (c_X4_write l D kc N adr cm r (fill (rlF W T U n) W i2) T (rlF W T U n) n i2 ((rlF W T U n) i2) ⟨g4, g5, g6, g7, by omega⟩ (by omega) (by omega)) (cwV 2 C.2.2.2.2.1 gX4_relocate_X4_write rfl rfl rfl (by decide +kernel) ⟨Nat.le_of_ble_eq_true rfl, Nat.le_of_ble_eq_true rfl⟩) rfl rfl (Nat.le_of_ble_eq_true rfl) (Nat.zero_le _) (Nat.zero_le _) dX4_relocate_80 (fun cell7 q7 => ?_)
                obtain ⟨⟨g_8, g_9, g_10, g_11, g_12⟩, gf_13⟩ := q7
                have fr_14 : ∀ j : Nat, (j < r ∨ r + 4 ≤ j) → cell7 j = cell j := fun j hj => (gf_13 j (by omega)).trans (frl58 j hj)
                refine g_iinc C 2 [(2, .int (nI (i2 + 1))), (0, .ref (adr r)), (1, .int (nI k))] rfl (iinc_nI i2) (by decide) rfl dX4_relocate_83 ?_
                refine g_goto C 58 (by decide) dX4_relocate_86 ?_
                refine g_sub [1, 2, 0] rfl ?_
                have hx_15 : cell7 (r + 1) = .inl (kc 0, 40, .inl (fill (rlF W T U n) W (i2 + 1))) := g_9.trans (congrArg (fun f0 : Nat → Int32 => (.inl (kc 0, 40, .inl f0) : va_E)) (show (upd (fill (rlF W T U n) W i2) i2 ((rlF W T U n) i2)) = (fill (rlF W T U n) W (i2 + 1)) from by exact fill_upd rfl))
                have hx_16 : cell7 (r + 3) = .inl (kc 0, 40, .inl (rlF W T U n)) := g_11.trans (congrArg (fun f0 : Nat → Int32 => (.inl (kc 0, 40, .inl f0) : va_E)) (show (rlF W T U n) = (rlF W T U n) from by rfl))
                exact ih (i2 + 1) _ (by omega) (by omega) g_8 hx_15 g_10 hx_16 fr_14 
        refine g_sub [1, 2, 0] rfl ?_
        have hx_17 : cl (r + 1) = .inl (kc 0, 40, .inl (fill (rlF W T U n) W 0)) := g1.trans (congrArg (fun f0 : Nat → Int32 => (.inl (kc 0, 40, .inl f0) : va_E)) (show W = (fill (rlF W T U n) W 0) from by exact fill_0))
        have hx_18 : cl (r + 3) = .inl (kc 0, 40, .inl (rlF W T U n)) := g3.trans (congrArg (fun f0 : Nat → Int32 => (.inl (kc 0, 40, .inl f0) : va_E)) (show (rlF W T U i) = (rlF W T U n) from by rw [show i = n by omega]))
        exact L58 (k + 1) 0 _ (by omega) (by omega) g0 hx_17 g2 hx_18 frl2 
      · -- not taken at 7
        have c7' := i_nle c7
        refine g_iload_n C 2 rfl dX4_relocate_10 ?_
        refine g_aload_n C 0 rfl dX4_relocate_11 ?_
        refine g_get C r 4 0 (by omega) g0 rfl in4 (by decide) f9 (fun _ h9 => h9) rfl dX4_relocate_12 ?_
        refine g_alen C (r + 1) 0 (by omega) g1 rfl 40 rfl dX4_relocate_15 ?_
        refine g_icmp_ge C 56 (by decide) dX4_relocate_16 (fun c16 => ?_) (fun c16 => ?_)
        · -- taken at 16
          have c16' := i_le c16
          exfalso; omega
        · -- not taken at 16
          have c16' := i_nle c16
          refine g_aload_n C 0 rfl dX4_relocate_19 ?_
          refine g_iload_n C 2 rfl dX4_relocate_20 ?_
          refine g_Vi C [.int (nI i)] r 4 (by omega) g0 rfl (c_X4_targetOf l D kc N adr cl r W T (rlF W T U i) n (nI i) ⟨g0, g1, g2, g3, by omega⟩ (by omega)) (cwV 1 C.2.2.2.2.1 gX4_relocate_X4_targetOf rfl rfl rfl (by decide +kernel) ⟨Nat.le_of_ble_eq_true rfl, Nat.le_of_ble_eq_true rfl⟩) rfl rfl (Nat.le_of_ble_eq_true rfl) (Nat.zero_le _) (Nat.zero_le _) dX4_relocate_21 (fun v19 cell19 q19 => ?_)
          obtain ⟨rfl, rfl⟩ := q19
          refine g_eqst (st1 := ([.int (T i)] : List Value)) (by rw [atF_nI (by omega) (by omega)]) ?_
          refine g_istore_n C [(3, .int (T i)), (0, .ref (adr r)), (1, .int (nI k)), (2, .int (nI i))] (by decide) rfl dX4_relocate_24 ?_
          refine g_iload_n C 0 rfl dX4_relocate_25 ?_
          refine g_if_lt C 50 (by decide) dX4_relocate_26 (fun c26 => ?_) (fun c26 => ?_)
          · -- taken at 26
            have c26' := i_lt c26
            refine g_iinc C 3 [(2, .int (nI (i + 1))), (3, .int (T i)), (0, .ref (adr r)), (1, .int (nI k))] rfl (iinc_nI i) (by decide) rfl dX4_relocate_50 ?_
            refine g_goto C 2 (by decide) dX4_relocate_53 ?_
            refine g_sub [2, 3, 0] rfl ?_
            have hx_21 : cl (r + 3) = .inl (kc 0, 40, .inl (rlF W T U (i + 1))) := g3.trans (congrArg (fun f0 : Nat → Int32 => (.inl (kc 0, 40, .inl f0) : va_E)) (show (rlF W T U i) = (rlF W T U (i + 1)) from by first | exact (if_pos (by omega)).symm | exact (if_neg (by omega)).symm))
            exact ih (i + 1) _ (by omega) (by omega) g0 g1 g2 hx_21 frl2 
          · -- not taken at 26
            have c26' := i_nlt c26
            refine g_iload_n C 0 rfl dX4_relocate_29 ?_
            refine g_aload_n C 1 rfl dX4_relocate_30 ?_
            refine g_get C r 4 2 (by omega) g0 rfl in4 (by decide) f18 (fun _ h9 => h9) rfl dX4_relocate_31 ?_
            refine g_alen C (r + 3) 0 (by omega) g3 rfl 40 rfl dX4_relocate_34 ?_
            refine g_icmp_ge C 50 (by decide) dX4_relocate_35 (fun c35 => ?_) (fun c35 => ?_)
            · -- taken at 35
              have c35' := i_le c35
              refine g_iinc C 3 [(2, .int (nI (i + 1))), (3, .int (T i)), (0, .ref (adr r)), (1, .int (nI k))] rfl (iinc_nI i) (by decide) rfl dX4_relocate_50 ?_
              refine g_goto C 2 (by decide) dX4_relocate_53 ?_
              refine g_sub [2, 3, 0] rfl ?_
              have hx_22 : cl (r + 3) = .inl (kc 0, 40, .inl (rlF W T U (i + 1))) := g3.trans (congrArg (fun f0 : Nat → Int32 => (.inl (kc 0, 40, .inl f0) : va_E)) (show (rlF W T U i) = (rlF W T U (i + 1)) from by first | exact (if_pos (by omega)).symm | exact (if_neg (by omega)).symm))
              exact ih (i + 1) _ (by omega) (by omega) g0 g1 g2 hx_22 frl2 
            · -- not taken at 35
              have c35' := i_nle c35
              refine g_aload_n C 1 rfl dX4_relocate_38 ?_
              refine g_get C r 4 2 (by omega) g0 rfl in4 (by decide) f18 (fun _ h9 => h9) rfl dX4_relocate_39 ?_
              refine g_iload_n C 0 rfl dX4_relocate_42 ?_
              refine g_aload_n C 1 rfl dX4_relocate_43 ?_
              refine g_get C r 4 0 (by omega) g0 rfl in4 (by decide) f9 (fun _ h9 => h9) rfl dX4_relocate_44 ?_
              refine g_iload_n C 3 rfl dX4_relocate_47 ?_
              refine g_iald C (r + 1) (by omega) g1 (vp_in_nI (by omega) (by omega)) dX4_relocate_48 ?_
              refine g_eqst (show ([.int (W (nI i).toNatClampNeg), .int (T i), .ref (adr (r + 3))] : List Value) = ([.int (W i), .int (T i), .ref (adr (r + 3))] : List Value) from by rw [nI_clamp (by omega)]) ?_
              refine g_iast C (r + 3) (by omega) g3 (vp_in_iff.mpr (by omega)) dX4_relocate_49 ?_
              refine g_cell (fun cell23 ec23 => ?_)
              have h_24 : cell23 r = .inr (4, [.ref (adr (r + 1)), .ref (adr (r + 2)), .ref (adr (r + 3)), .int (nI n)]) := by rw [ec23, va_up_ne _ _ (by omega)]; exact g0
              have h_25 : cell23 (r + 1) = .inl (kc 0, 40, .inl W) := by rw [ec23, va_up_ne _ _ (by omega)]; exact g1
              have h_26 : cell23 (r + 2) = .inl (kc 0, 40, .inl T) := by rw [ec23, va_up_ne _ _ (by omega)]; exact g2
              have h_27 : cell23 (r + 3) = .inl (kc 0, 40, .inl (upd (rlF W T U i) (T i).toNatClampNeg (W i))) := by rw [ec23]; exact va_up_self _ _ _
              have fr_28 : ∀ j : Nat, (j < r ∨ r + 4 ≤ j) → cell23 j = cell j := fun j hj => by rw [ec23, va_up_ne _ _ (by omega)]; exact frl2 j hj
              refine g_iinc C 3 [(2, .int (nI (i + 1))), (3, .int (T i)), (0, .ref (adr r)), (1, .int (nI k))] rfl (iinc_nI i) (by decide) rfl dX4_relocate_50 ?_
              refine g_goto C 2 (by decide) dX4_relocate_53 ?_
              refine g_sub [2, 3, 0] rfl ?_
              have hx_29 : cell23 (r + 3) = .inl (kc 0, 40, .inl (rlF W T U (i + 1))) := h_27.trans (congrArg (fun f0 : Nat → Int32 => (.inl (kc 0, 40, .inl f0) : va_E)) (show (upd (rlF W T U i) (T i).toNatClampNeg (W i)) = (rlF W T U (i + 1)) from by first | exact (if_pos (by omega)).symm | exact (if_neg (by omega)).symm))
              exact ih (i + 1) _ (by omega) (by omega) h_24 h_25 h_26 hx_29 fr_28 
  refine g_sub [1, 2, 0] rfl ?_
  have hx_30 : cell (r + 3) = .inl (kc 0, 40, .inl (rlF W T U 0)) := h3.trans (congrArg (fun f0 : Nat → Int32 => (.inl (kc 0, 40, .inl f0) : va_E)) (show U = (rlF W T U 0) from by rfl))
  exact L2 (n + 1) 0 _ (by omega) (by omega) h0 h1 h2 hx_30 (fun _ _ => rfl) 
